-- what lies behind the logs is cleared
def clK (g : Int → Int) (e : Int) : Nat → List (Int × Int)
  | 0 => []
  | n + 1 => if g (e + n) = 0 then clK g e n else clK g e n ++ [(e + n, 0)]
theorem clK_len (g : Int → Int) (e : Int) : ∀ n : Nat, (clK g e n).length ≤ n
  | 0 => Nat.le_refl _
  | n + 1 => by
    have := clK_len g e n
    unfold clK
    split
    · omega
    · rw [List.length_append, List.length_cons, List.length_nil]; omega
theorem clK_mem {g : Int → Int} {e : Int} {w : Int × Int} : ∀ {n : Nat}, w ∈ clK g e n ↔ ∃ k : Nat, k < n ∧ w = (e + k, 0) ∧ g (e + k) ≠ 0
  | 0 => ⟨fun h => (by cases h), fun ⟨k, hk, _⟩ => (by omega)⟩
  | n + 1 => by
    unfold clK
    split
    · next h0 =>
      rw [clK_mem (n := n)]
      constructor
      · rintro ⟨k, hk, h⟩; exact ⟨k, by omega, h⟩
      · rintro ⟨k, hk, h, h2⟩
        refine ⟨k, ?_, h, h2⟩
        by_cases q : k = n
        · rw [q] at h2; exact absurd h0 h2
        · omega
    · next h0 =>
      rw [List.mem_append, clK_mem (n := n), List.mem_singleton]
      constructor
      · rintro (⟨k, hk, h⟩ | h)
        · exact ⟨k, by omega, h⟩
        · exact ⟨n, by omega, h, h0⟩
      · rintro ⟨k, hk, h, h2⟩
        by_cases q : k = n
        · subst q; exact Or.inr h
        · exact Or.inl ⟨k, by omega, h, h2⟩
abbrev WT : Type := Int → List Int × List (List Int) × RS
def endW (g : Int → Int) (W : WT) (i : Int) : Int := 64 * g (641 + 2 * i) + (2 + (W i).1.length + (W i).2.1.flatten.length)
def clL (g : Int → Int) (W : WT) : Nat → List (Int × Int)
  | 0 => []
  | n + 1 => clL g W n ++ clK g (endW g W n) (64 * g (641 + 2 * n) + 64 - endW g W n).toNat
abbrev PgA (g : Int → Int) (W : WT) : Prop := ∀ i, 0 ≤ i → i < g 640 → PgX g i (W i).1 (W i).2.1 (W i).2.2
def okV (g : Int → Int) (W : WT) (n : Int) (w : Int × Int) : Prop := ∃ i : Nat, (i : Int) < n ∧ (endW g W i ≤ w.1 ∧ w.1 < 64 * g (641 + 2 * i) + 64) ∧ w.2 = 0 ∧ g w.1 ≠ 0
theorem clL_mem {g : Int → Int} {W : WT} {w : Int × Int} : ∀ {n : Nat}, w ∈ clL g W n → okV g W n w
  | 0, h => by cases h
  | n + 1, h => by
    rw [clL, List.mem_append] at h
    rcases h with h | h
    · obtain ⟨i, h1, h2⟩ := clL_mem h
      exact ⟨i, by omega, h2⟩
    · obtain ⟨k, hk, h1, h2⟩ := clK_mem.mp h
      rw [h1]
      exact ⟨n, by omega, ⟨by dsimp only; omega, by dsimp only; omega⟩, rfl, h2⟩
theorem clL_len {g : Int → Int} {W : WT} (h : ∀ i : Int, 0 ≤ endW g W i - 64 * g (641 + 2 * i)) : ∀ n : Nat, (clL g W n).length ≤ 64 * n
  | 0 => Nat.le_refl _
  | n + 1 => by
    have h1 := clL_len h n
    have h2 := clK_len g (endW g W n) (64 * g (641 + 2 * n) + 64 - endW g W n).toNat
    have h3 := h n
    rw [clL, List.length_append]
    omega
theorem endW_ge (g : Int → Int) (W : WT) (i : Int) : 0 ≤ endW g W i - 64 * g (641 + 2 * i) := by unfold endW; omega
theorem cl_keep {g : Int → Int} {W : WT} (hD : DirOK g) (hW : PgA g W) {vs : List (Int × Int)} (hvs : ∀ w ∈ vs, okV g W (g 640) w) : (∀ j, 640 ≤ j → apw g vs j = g j) ∧ ∀ i, 0 ≤ i → i < g 640 → ∀ j, 64 * g (641 + 2 * i) ≤ j → j ≤ endW g W i → j < 64 * g (641 + 2 * i) + 64 → apw g vs j = g j := by
  constructor
  · intro j hj
    apply apw_out
    intro w hw e
    obtain ⟨i, h1, h2, h3, h4⟩ := hvs w hw
    have := hD.2.1 i (by omega) h1
    omega
  · intro i i0 i1 j j0 j1 j2
    apply apw_out
    intro w hw e
    obtain ⟨k, h1, h2, h3, h4⟩ := hvs w hw
    by_cases q : (k : Int) = i
    · rw [q] at h2
      have hB := (hW i i0 i1).1.1.2.2.2.2.2
      have ej : w.1 = endW g W i := by omega
      rw [ej] at h4 h2
      unfold endW at h4 h2
      exact h4 (hB (by omega))
    · have hne : g (641 + 2 * (k : Int)) ≠ g (641 + 2 * i) := by
        rcases Int.lt_or_gt_of_ne q with q | q
        · exact hD.2.2.1 k i (by omega) q i1
        · exact fun h => hD.2.2.1 i k i0 q h1 h.symm
      have := hD.2.1 k (by omega) h1
      have h9 : 0 ≤ endW g W k - 64 * g (641 + 2 * k) := by unfold endW; omega
      omega
theorem cl_Pg {g : Int → Int} {W : WT} (hD : DirOK g) (hW : PgA g W) {vs : List (Int × Int)} (hvs : ∀ w ∈ vs, okV g W (g 640) w) {i : Int} (hi : 0 ≤ i ∧ i < g 640) : Pg (apw g vs) (g (641 + 2 * i)) (W i).1 (W i).2.1 (W i).2.2 := Pg_cong2 (fun j a b c => (cl_keep hD hW hvs).2 i hi.1 hi.2 j a (by unfold endW; exact b) c) (hW i hi.1 hi.2).1
theorem cl_bytes {g : Int → Int} {W : WT} {n : Int} {vs : List (Int × Int)} (hb : bytesOK g) (hvs : ∀ w ∈ vs, okV g W n w) : bytesOK (apw g vs) := by
  intro j j0 j1
  rcases apw_or (f := g) (g := fun _ => 0) (x := j) (ws := vs) (fun w hw e => by obtain ⟨i, _, _, h, _⟩ := hvs w hw; exact h) with h | h
  · rw [h]; exact hb j j0 j1
  · rw [h]; omega
theorem cl_i {g : Int → Int} {W : WT} (hD : DirOK g) (hb : bytesOK g) (hW : PgA g W) {vs : List (Int × Int)} (hvs : ∀ w ∈ vs, okV g W (g 640) w) : WFi (apw g vs) :=
  WFi_back hD (fun j a _ => (cl_keep hD hW hvs).1 j a) (cl_bytes hb hvs) (fun i i0 i1 => ⟨_, _, _, hW i i0 i1, fun j a b c => (cl_keep hD hW hvs).2 i i0 i1 j a (by unfold endW; exact b) c⟩)
theorem clL_hit {g : Int → Int} {W : WT} {i : Nat} {j : Int} : ∀ {n : Nat}, i < n → endW g W i ≤ j → j < 64 * g (641 + 2 * i) + 64 → g j ≠ 0 → ∃ w ∈ clL g W n, w.1 = j
  | 0, h, _, _, _ => by omega
  | n + 1, h, h1, h2, h3 => by
    rw [clL]
    by_cases q : i = n
    · subst q
      refine ⟨(endW g W i + ((j - endW g W i).toNat : Int), 0), List.mem_append_right _ (clK_mem.mpr ⟨(j - endW g W i).toNat, by omega, rfl, ?_⟩), by dsimp only; omega⟩
      have e : endW g W i + ((j - endW g W i).toNat : Int) = j := by omega
      rw [e]; exact h3
    · obtain ⟨w, hw, e⟩ := clL_hit (n := n) (by omega) h1 h2 h3
      exact ⟨w, List.mem_append_left _ hw, e⟩
theorem cl_z {g : Int → Int} {W : WT} (hD : DirOK g) (hb : bytesOK g) (hW : PgA g W) : WFz (apw g (clL g W (g 640).toNat)) := by
  have hu := hD.1
  have hvs : ∀ w ∈ clL g W (g 640).toNat, okV g W (g 640) w := fun w hw => by
    have := clL_mem hw
    have e : ((g 640).toNat : Int) = g 640 := by omega
    rw [e] at this
    exact this
  have hi := cl_i hD hb hW hvs
  have hk := cl_keep hD hW hvs
  refine ⟨hi.1, hi.2.1, fun i i0 i1 => ?_⟩
  rw [hk.1 640 (by omega)] at i1
  refine ⟨(W i).1, (W i).2.1, (W i).2.2, ?_, ?_⟩
  · have hP := hW i i0 i1
    have hh : hiF (apw g (clL g W (g 640).toNat)) i = hiF g i := by
      unfold hiF
      rw [hk.1 640 (by omega), hk.1 _ (by omega)]
    unfold PgX at hP ⊢
    rw [hk.1 (641 + 2 * i) (by omega), hk.1 (642 + 2 * i) (by omega), hh]
    exact ⟨cl_Pg hD hW hvs ⟨i0, i1⟩, hP.2⟩
  · rw [hk.1 (641 + 2 * i) (by omega)]
    intro j j0 j1
    by_cases q : g (64 * g (641 + 2 * i) + j) = 0
    · rcases apw_or (f := g) (g := fun _ => 0) (x := 64 * g (641 + 2 * i) + j) (ws := clL g W (g 640).toNat) (fun w hw e => by obtain ⟨_, _, _, h, _⟩ := hvs w hw; exact h) with h | h
      · rw [h]; exact q
      · exact h
    · refine apw_in (fun w hw e => by obtain ⟨_, _, _, h, _⟩ := hvs w hw; exact h) ?_
      have ei : ((i.toNat : Nat) : Int) = i := by omega
      exact clL_hit (i := i.toNat) (by omega) (by rw [ei]; unfold endW; omega) (by rw [ei]; omega) q
-- the row behind some writes, once those ahead were all written
theorem take_past {F : Int} {us vs : List (Int × Int)} (h : ¬ blw F us.length) : ∃ m, (us ++ vs).take (nwr F (us ++ vs).length) = us ++ vs.take m := by
  have : us.length ≤ nwr F (us ++ vs).length := by unfold nwr; rw [List.length_append]; split <;> omega
  rcases take_app3 us vs (nwr F (us ++ vs).length) with ⟨e, h2⟩ | ⟨m, e, _⟩
  · exact ⟨0, by rw [e, List.take_of_length_le this, List.take_zero, List.append_nil]⟩
  · exact ⟨m, e⟩
theorem P_X0_clearBehindLogs {us : List (Int × Int)} {g : Int → Int} {W : WT} {Q : zMem → Prop} {M0 M : zMem} (hw : WC M0 M us) (hnb : ¬ blw (M0.1 65) us.length) (hg : g = apw (M0.2 64) us) (hD : DirOK g) (hb : bytesOK g) (hW : PgA g W) (hl : us.length ≤ 20000) (hQ : ∀ M', WC M0 M' (us ++ clL g W (g 640).toNat) → Q M') : T_X0_clearBehindLogs Q M := by
  have a64 : alen 64 = 1334 := alen_64
  have hu := hD.1
  have hrow : ∀ {M1 vs}, WC M0 M1 (us ++ vs) → ∃ m, M1.2 64 = apw g (vs.take m) := by
    intro M1 vs h
    obtain ⟨m, hm⟩ := take_past (vs := vs) hnb
    exact ⟨m, by rw [h.2.1, hm, apw_app, ← hg]⟩
  have h0 : WC M0 M (us ++ []) := by rw [List.append_nil]; exact hw
  obtain ⟨m0, hm0⟩ := hrow h0
  rw [List.take_nil] at hm0
  have hm0 : M.2 64 = g := hm0
  unfold T_X0_clearBehindLogs
  apply P_X4_inUse (by omega) (by rw [hm0]; omega)
  rw [hm0]
  unfold T_X0_clearBehindLogs_10
  apply zl1_rule (fun v2 M1 => (0 ≤ v2 ∧ v2 ≤ g 640) ∧ WC M0 M1 (us ++ clL g W v2.toNat)) (fun v2 _ => (g 640 - v2).toNat)
  · intro X v2 M1 ⟨h1, h2⟩ hX
    refine ⟨fun q => ?_, fun q => ?_⟩
    · have : v2 = g 640 := by omega
      rw [this] at h2
      exact hQ M1 h2
    · obtain ⟨n, hn⟩ : ∃ n : Nat, v2 = n := ⟨v2.toNat, by omega⟩
      subst hn
      rw [Int.toNat_natCast] at h2
      obtain ⟨m, hm⟩ := hrow h2
      have hv1 : ∀ w ∈ (clL g W n).take m, okV g W (g 640) w := fun w hw => by
        obtain ⟨i, a, b⟩ := clL_mem (take_mem hw)
        exact ⟨i, by omega, b⟩
      have hk := cl_keep hD hW hv1
      have hp := hD.2.1 n (by omega) (by omega)
      have hPg := cl_Pg hD hW hv1 (i := n) ⟨by omega, by omega⟩
      have hby := cl_bytes hb hv1
      apply P_X4_pageAt (by omega) ⟨by omega, by omega⟩ (by rw [hm, hk.1 _ (by omega)]; exact hp)
      rw [hm, hk.1 _ (by omega)]
      obtain ⟨p, hpp⟩ : ∃ p, p = g (641 + 2 * (n : Int)) := ⟨_, rfl⟩
      rw [← hpp] at hp hPg ⊢
      apply P_X4_logEnd (by omega) (by rw [hm]; exact hPg.1) (by rw [hm]; intro j a b; have := hby j a (by omega); exact inR_mk (by omega) (by omega))
      have hend : 64 * p + 2 + (W n).1.length + ((W n).2.1.flatten.length : Int) = endW g W n := by unfold endW; rw [← hpp]; omega
      rw [hend]
      have he1 := hPg.1.2.2.2.1
      have he2 : 64 * p + 2 ≤ endW g W n ∧ endW g W n ≤ 64 * p + 64 := by rw [← hend]; omega
      obtain ⟨en, hen⟩ : ∃ en, en = endW g W n := ⟨_, rfl⟩
      rw [← hen] at he2 ⊢
      unfold T_X0_clearBehindLogs_34
      apply zl1_rule (fun v4 M1 => (en ≤ v4 ∧ v4 ≤ 64 * p + 64) ∧ WC M0 M1 (us ++ (clL g W n ++ clK g en (v4 - en).toNat))) (fun v4 _ => (64 * p + 64 - v4).toNat)
      · intro X4 v4 M2 ⟨k1, k2⟩ hX4
        refine ⟨inR_mk (by omega) (by omega), inR_mk (by omega) (by omega), fun q2 => ⟨inR_mk (by omega) (by omega), hX _ _ ⟨by omega, ?_⟩ (by omega)⟩, fun q2 => ⟨⟨by omega, by omega⟩, ?_⟩⟩
        · have e1 : ((n : Int) + 1).toNat = n + 1 := by omega
          have e2 : v4 = 64 * p + 64 := by omega
          rw [e1, clL, ← hen, ← hpp, ← e2]; exact k2
        · obtain ⟨k, hk4⟩ : ∃ k : Nat, v4 = en + k := ⟨(v4 - en).toNat, by omega⟩
          have ek : (v4 - en).toNat = k := by omega
          rw [ek] at k2
          obtain ⟨m2, hm2⟩ := hrow k2
          have ev : M2.2 64 v4 = g v4 := by
            rw [hm2]
            apply apw_out
            intro w hw e
            have hw := take_mem hw
            rw [List.mem_append] at hw
            rcases hw with hw | hw
            · obtain ⟨i, a, b, c, d⟩ := clL_mem hw
              have hne : g (641 + 2 * (i : Int)) ≠ p := by rw [hpp]; exact hD.2.2.1 i n (by omega) (by omega) (by omega)
              have := endW_ge g W i
              omega
            · obtain ⟨k', a, b, c⟩ := clK_mem.mp hw
              rw [b] at e
              dsimp only at e
              omega
          have ek1 : (v4 + 1 - en).toNat = k + 1 := by omega
          rw [ev]
          refine ⟨fun q3 => ?_, fun q3 => ?_⟩
          · unfold T_X0_clearBehindLogs_62
            refine ⟨inR_mk (by omega) (by omega), hX4 _ _ ⟨by omega, ?_⟩ (by omega)⟩
            rw [ek1, clK, ← hk4, if_pos q3]; exact k2
          · have hlc := clL_len (endW_ge g W) n
            have hlk := clK_len g en k
            apply P_X0_write k2 (by omega) (by rw [List.length_append, List.length_append]; omega)
            intro M3 h3
            unfold T_X0_clearBehindLogs_62
            refine ⟨inR_mk (by omega) (by omega), hX4 _ _ ⟨by omega, ?_⟩ (by omega)⟩
            rw [ek1, clK, ← hk4, if_neg q3, ← List.append_assoc, ← List.append_assoc]
            rw [← List.append_assoc] at h3
            exact h3
      · refine ⟨by omega, ?_⟩
        have : (en - en).toNat = 0 := by omega
        rw [this, clK, List.append_nil]; exact h2
  · exact ⟨by omega, h0⟩
theorem P_X0_doJournalAgain {F : Int → Int} {ps : List Int} {Q : zMem → Prop} {M0 M : zMem} (hw : WC M0 M []) (hJ : JW (M0.2 64) F ps) (hQ : ∀ M', WC M0 M' (tjB F ps ++ [(661, 0)]) → Q M') : T_X0_doJournalAgain Q M := by
  have a64 : alen 64 = 1334 := alen_64
  obtain ⟨j1, j2, j3, j4, j5, j6, j7, j8⟩ := hJ
  have hu := j6.1.1
  have hD : ((dirN F : Nat) : Int) = 1 + 2 * F 640 := by unfold dirN; omega
  have hi : ∀ {M1 us}, WC M0 M1 us → (∀ w ∈ us, w ∈ tjB F ps) → ∀ x, 661 ≤ x → M1.2 64 x = M0.2 64 x := by
    intro M1 us h hs x hx
    rw [h.2.1]
    apply apw_out
    intro w hw e
    have := (tjB_mem (hs w (take_mem hw))).1
    rcases this with ⟨p, hp, q⟩ | q
    · have := j7 p hp; omega
    · omega
  have sub : ∀ {a : List Int}, (∀ p ∈ a, p ∈ ps) → ∀ w ∈ blL F a, w ∈ tjB F ps := by
    intro a ha w hw
    unfold blL at hw
    rw [List.mem_flatMap] at hw
    obtain ⟨p, hp, h⟩ := hw
    unfold tjB
    exact List.mem_append_left _ (List.mem_flatMap.mpr ⟨p, ha p hp, h⟩)
  unfold T_X0_doJournalAgain
  refine ⟨⟨by omega, by omega⟩, ?_⟩
  have e662 : M.2 64 662 = ps.length := by rw [hi hw (fun w hw => by cases hw) _ (by omega)]; exact j2
  have em : max 0 (min 10 (M.2 64 662)) = (ps.length : Int) := by rw [e662]; omega
  rw [em]
  unfold T_X0_doJournalAgain_24
  apply zl2_rule (fun v2 v3 M1 => (0 ≤ v3 ∧ v3 ≤ ps.length) ∧ v2 = 663 + 65 * v3 ∧ WC M0 M1 (blL F (ps.take v3.toNat))) (fun _ v3 _ => ((ps.length : Int) - v3).toNat)
  · intro X v2 v3 M1 ⟨h1, h2, h3⟩ hX
    have hst : ∀ w ∈ blL F (ps.take v3.toNat), w ∈ tjB F ps := sub (fun p hp => take_mem hp)
    have hlen : (blL F (ps.take v3.toNat)).length ≤ 640 := by rw [blL_len, List.length_take]; omega
    refine ⟨fun q => ⟨⟨by omega, by omega⟩, ?_⟩, fun q => ?_⟩
    · have e3 : v3 = ps.length := by omega
      have et : ps.take v3.toNat = ps := List.take_of_length_le (by omega)
      rw [et] at h3 hst hlen
      have e640 : M1.2 64 v2 = F 640 := by
        rw [hi h3 hst _ (by omega), h2, e3]
        have := j4 0 (by omega) (by omega)
        simpa using this
      have em2 : 1 + 2 * max 0 (min 10 (M1.2 64 v2)) = ((dirN F : Nat) : Int) := by rw [e640]; omega
      rw [em2]
      refine ⟨inR_mk (by omega) (by omega), inR_mk (by omega) (by omega), ?_⟩
      apply P_X0_copyIn (s := fun k => F (640 + k)) h3 (fun k M2 hk hw2 => ?_) (by omega) ⟨by omega, by omega, by omega, by omega⟩ (by omega)
      · intro M2 hw2
        have ht : blL F ps ++ cpL 640 (fun k => F (640 + k)) (dirN F) = tjB F ps := rfl
        rw [ht] at hw2
        apply P_X0_write hw2 (by omega) (by rw [← ht, List.length_append, cpL_len]; omega)
        exact hQ
      · rw [hi hw2 (fun w hw => ?_) _ (by omega), h2, e3]
        · exact j4 k (by omega) (by omega)
        · rw [List.mem_append] at hw
          rcases hw with hw | hw
          · exact hst w hw
          · obtain ⟨k', a, b⟩ := cpL_mem.mp hw
            unfold tjB
            exact List.mem_append_right _ (cpL_mem.mpr ⟨k', by omega, b⟩)
    · obtain ⟨n, hn⟩ : ∃ n : Nat, v3 = n := ⟨v3.toNat, by omega⟩
      subst hn
      rw [Int.toNat_natCast] at h3 hst hlen
      have hil : n < ps.length := by omega
      obtain ⟨p, hp⟩ : ∃ p, ps[n]? = some p := ⟨ps[n], List.getElem?_eq_getElem hil⟩
      have hpb := j7 p (List.mem_of_getElem? hp)
      obtain ⟨b1, b2⟩ := j3 n p hp
      have ep : M1.2 64 v2 = p := by rw [hi h3 hst _ (by omega), h2]; exact b1
      rw [ep]
      have e64 : p * 64 = 64 * p := by omega
      rw [e64]
      refine ⟨inR_mk (by omega) (by omega), ⟨by omega, by omega⟩, inR_mk (by omega) (by omega), ?_⟩
      have hsn : ps.take (n + 1) = ps.take n ++ [p] := by
        rw [List.take_succ, hp]; rfl
      apply P_X0_copyIn (n := 64) (s := fun k => F (64 * p + k)) h3 (fun k M2 hk hw2 => ?_) (by omega) ⟨by omega, by omega, by omega, by omega⟩ (by omega)
      · intro M4 hw4
        refine ⟨inR_mk (by omega) (by omega), inR_mk (by omega) (by omega), hX _ _ _ ⟨by omega, by omega, ?_⟩ (by omega)⟩
        have e1 : ((n : Int) + 1).toNat = n + 1 := by omega
        rw [e1, hsn, blL_snoc]; exact hw4
      · have ex : v2 + 1 + (k : Int) = 663 + 65 * n + 1 + k := by omega
        rw [hi hw2 (fun w hw => ?_) _ (by omega), ex]
        · exact b2 k (by omega) (by omega)
        · rw [List.mem_append] at hw
          rcases hw with hw | hw
          · exact hst w hw
          · obtain ⟨k', a, b⟩ := cpL_mem.mp hw
            have : w ∈ blL F (ps.take (n + 1)) := by
              rw [hsn, blL_snoc]
              exact List.mem_append_right _ (cpL_mem.mpr ⟨k', by omega, b⟩)
            exact sub (fun p hp => take_mem hp) w this
  · refine ⟨by omega, by omega, ?_⟩
    show WC M0 M (blL F (ps.take 0))
    rw [List.take_zero]; exact hw
