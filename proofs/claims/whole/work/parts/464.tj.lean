-- rows of bytes that are written
def cpL (b : Int) (s : Int → Int) : Nat → List (Int × Int)
  | 0 => []
  | n + 1 => cpL b s n ++ [(b + n, s n)]
theorem cpL_len (b : Int) (s : Int → Int) : ∀ n : Nat, (cpL b s n).length = n
  | 0 => rfl
  | n + 1 => by rw [cpL, List.length_append, cpL_len b s n]; rfl
theorem cpL_mem {b : Int} {s : Int → Int} {w : Int × Int} : ∀ {n : Nat}, w ∈ cpL b s n ↔ ∃ k : Nat, k < n ∧ w = (b + k, s k)
  | 0 => ⟨fun h => (by cases h), fun ⟨k, hk, _⟩ => (by omega)⟩
  | n + 1 => by
    rw [cpL, List.mem_append, cpL_mem (n := n)]
    constructor
    · rintro (⟨k, hk, h⟩ | h)
      · exact ⟨k, by omega, h⟩
      · exact ⟨n, by omega, mem_single h⟩
    · rintro ⟨k, hk, h⟩
      by_cases q : k = n
      · subst q; exact Or.inr (by rw [h]; exact List.mem_singleton.mpr rfl)
      · exact Or.inl ⟨k, by omega, h⟩
theorem cpL_congr {b : Int} {s s' : Int → Int} : ∀ {n : Nat}, (∀ k : Nat, k < n → s k = s' k) → cpL b s n = cpL b s' n
  | 0, _ => rfl
  | n + 1, h => by rw [cpL, cpL, cpL_congr (n := n) (fun k hk => h k (by omega)), h n (by omega)]
def jbL (F : Int → Int) : List Int → Int → List (Int × Int)
  | [], _ => []
  | p :: t, a => (a, p) :: (cpL (a + 1) (fun k => F (64 * p + k)) 64 ++ jbL F t (a + 65))
theorem jbL_snoc (F : Int → Int) (p : Int) : ∀ (ps : List Int) (a : Int), jbL F (ps ++ [p]) a = jbL F ps a ++ ((a + 65 * ps.length, p) :: cpL (a + 65 * ps.length + 1) (fun k => F (64 * p + k)) 64)
  | [], a => by
    show (a, p) :: (cpL (a + 1) _ 64 ++ []) = (a + 65 * (([] : List Int).length : Int), p) :: _
    have e : a + 65 * (([] : List Int).length : Int) = a := by simp
    rw [e, List.append_nil]
  | q :: t, a => by
    show (a, q) :: (cpL (a + 1) _ 64 ++ jbL F (t ++ [p]) (a + 65)) = (a, q) :: (cpL (a + 1) _ 64 ++ jbL F t (a + 65)) ++ _
    rw [jbL_snoc F p t (a + 65)]
    have e : a + 65 + 65 * (t.length : Int) = a + 65 * ((q :: t).length : Int) := by rw [List.length_cons]; omega
    rw [e, List.cons_append, List.append_assoc]
theorem jbL_len (F : Int → Int) : ∀ (ps : List Int) (a : Int), (jbL F ps a).length = 65 * ps.length
  | [], _ => rfl
  | p :: t, a => by
    show ((a, p) :: (cpL (a + 1) _ 64 ++ jbL F t (a + 65))).length = _
    rw [List.length_cons, List.length_append, cpL_len, jbL_len F t, List.length_cons]
    omega
def blL (F : Int → Int) (ps : List Int) : List (Int × Int) := ps.flatMap (fun p => cpL (64 * p) (fun k => F (64 * p + k)) 64)
theorem blL_snoc (F : Int → Int) (ps : List Int) (p : Int) : blL F (ps ++ [p]) = blL F ps ++ cpL (64 * p) (fun k => F (64 * p + k)) 64 := by
  unfold blL
  rw [List.flatMap_append, List.flatMap_cons, List.flatMap_nil, List.append_nil]
theorem blL_len (F : Int → Int) : ∀ ps : List Int, (blL F ps).length = 64 * ps.length
  | [] => rfl
  | p :: t => by
    show ((p :: t).flatMap _).length = _
    rw [List.flatMap_cons, List.length_append, cpL_len]
    have := blL_len F t
    unfold blL at this
    rw [this, List.length_cons]
    omega
def dirN (F : Int → Int) : Nat := (1 + 2 * F 640).toNat
def tjA (F : Int → Int) (ps : List Int) : List (Int × Int) := (662, (ps.length : Int)) :: jbL F ps 663 ++ cpL (663 + 65 * ps.length) (fun k => F (640 + k)) (dirN F)
def tjB (F : Int → Int) (ps : List Int) : List (Int × Int) := blL F ps ++ cpL 640 (fun k => F (640 + k)) (dirN F)
def tj (F : Int → Int) (ps : List Int) : List (Int × Int) := tjA F ps ++ [(661, 1)] ++ tjB F ps ++ [(661, 0)]
def pgsTo (b : Int → Int) : Nat → List Int
  | 0 => []
  | n + 1 => if b n = 1 then pgsTo b n ++ [(n : Int)] else pgsTo b n
theorem pgsTo_len (b : Int → Int) : ∀ n, (pgsTo b n).length ≤ n
  | 0 => Nat.le_refl _
  | n + 1 => by
    have := pgsTo_len b n
    unfold pgsTo
    split
    · rw [List.length_append, List.length_cons, List.length_nil]; omega
    · omega
theorem pgsTo_mem {b : Int → Int} {p : Int} : ∀ {n : Nat}, p ∈ pgsTo b n ↔ (0 ≤ p ∧ p < n) ∧ b p = 1
  | 0 => ⟨fun h => (by cases h), fun h => by omega⟩
  | n + 1 => by
    unfold pgsTo
    split
    · next hb =>
      rw [List.mem_append, pgsTo_mem (n := n), List.mem_singleton]
      constructor
      · rintro (h | h)
        · exact ⟨by omega, h.2⟩
        · rw [h]; exact ⟨by omega, hb⟩
      · rintro ⟨h1, h2⟩
        by_cases q : p = n
        · exact Or.inr q
        · exact Or.inl ⟨by omega, h2⟩
    · next hb =>
      rw [pgsTo_mem (n := n)]
      constructor
      · intro h; exact ⟨by omega, h.2⟩
      · rintro ⟨h1, h2⟩
        refine ⟨?_, h2⟩
        by_cases q : p = n
        · rw [q] at h2; exact absurd h2 hb
        · omega
theorem pgsTo_congr {b b' : Int → Int} : ∀ {n : Nat}, (∀ p : Int, 0 ≤ p → p < n → (b p = 1 ↔ b' p = 1)) → pgsTo b n = pgsTo b' n
  | 0, _ => rfl
  | n + 1, h => by
    have := pgsTo_congr (n := n) (fun p h0 h1 => h p h0 (by omega))
    have hn := h n (by omega) (by omega)
    unfold pgsTo
    rw [this]
    by_cases q : b n = 1
    · rw [if_pos q, if_pos (hn.mp q)]
    · rw [if_neg q, if_neg (fun e => q (hn.mpr e))]
theorem P_X0_copyIn {r1 : Nat} {frm b : Int} {n : Nat} {s : Int → Int} {us : List (Int × Int)} {Q : zMem → Prop} {M0 M : zMem} (hW : WC M0 M us) (hs : ∀ (k : Nat) (M1 : zMem), k < n → WC M0 M1 (us ++ cpL b s k) → M1.2 r1 (frm + k) = s k) (hb : 0 ≤ b ∧ b + n ≤ 1334) (hf : 0 ≤ frm ∧ frm + n ≤ alen r1 ∧ 0 < alen r1 ∧ alen r1 ≤ 30000) (hl : us.length + n < 30000) (hQ : ∀ M', WC M0 M' (us ++ cpL b s n) → Q M') : T_X0_copyIn r1 frm b n Q M := by
  unfold T_X0_copyIn T_X0_copyIn_3
  apply zl1_rule (fun v5 M1 => (0 ≤ v5 ∧ v5 ≤ n) ∧ WC M0 M1 (us ++ cpL b s v5.toNat)) (fun v5 _ => ((n : Int) - v5).toNat)
  · intro X v5 M1 ⟨h1, h2⟩ hX
    obtain ⟨k, hk⟩ : ∃ k : Nat, v5 = k := ⟨v5.toNat, by omega⟩
    subst hk
    rw [Int.toNat_natCast] at h2
    refine ⟨fun q => ?_, fun q => ⟨inR_mk (by omega) (by omega), hf.2.2.1, fun q2 => by omega, fun q2 => ⟨inR_mk (by omega) (by omega), inR_mk (by omega) (by omega), ⟨by omega, by omega⟩, ?_⟩⟩⟩
    · have : k = n := by omega
      rw [this] at h2
      exact hQ M1 h2
    · rw [hs k M1 (by omega) h2]
      apply P_X0_write h2 (by omega) (by rw [List.length_append, cpL_len]; omega)
      intro M3 hM3
      refine ⟨inR_mk (by omega) (by omega), hX _ _ ⟨by omega, ?_⟩ (by omega)⟩
      have e : ((k : Int) + 1).toNat = k + 1 := by omega
      rw [e, cpL, ← List.append_assoc]
      exact hM3
  · refine ⟨by omega, ?_⟩
    show WC M0 M (us ++ [])
    rw [List.append_nil]; exact hW
theorem P_X0_writeThroughJournal {F b : Int → Int} {ps : List Int} {Q : zMem → Prop} {M : zMem} (hr : inR (M.1 65)) (hF : agr (M.2 128) F) (hu : 1 ≤ F 640 ∧ F 640 ≤ 10) (hb : ∀ p, 0 ≤ p → p < 10 → M.2 130 p = b p ∧ (b p = 0 ∨ b p = 1)) (hps : ps = pgsTo b 10) (hQ : ∀ M', WC M M' (tj F ps) → Q M') : T_X0_writeThroughJournal 128 130 Q M := by
  have a128 : alen 128 = 661 := alen_128
  have a130 : alen 130 = 10 := alen_130
  have hpl := pgsTo_len b
  have hD : ((dirN F : Nat) : Int) = 1 + 2 * F 640 := by unfold dirN; omega
  have o128 : ∀ {M1 us}, WC M M1 us → M1.2 128 = M.2 128 := fun h => h.1.2 128 (by unfold fW; omega)
  have o130 : ∀ {M1 us}, WC M M1 us → M1.2 130 = M.2 130 := fun h => h.1.2 130 (by unfold fW; omega)
  unfold T_X0_writeThroughJournal
  refine P_X0_startAct (M := M) hr ?_
  intro M14 h14
  have e640 := hF 640 (by omega) (by omega)
  apply P_X4_inUse (by omega) (by rw [o128 h14, e640]; omega)
  rw [o128 h14, e640, ← hD]
  refine ⟨inR_mk (by omega) (by omega), inR_mk (by omega) (by omega), ?_⟩
  -- the directory
  have dcp : ∀ (us : List (Int × Int)) (pl : Int) (M1 : zMem) (Q' : zMem → Prop), WC M M1 us → (0 ≤ pl ∧ pl + dirN F ≤ 1334) → us.length ≤ 20000 → (∀ M', WC M M' (us ++ cpL pl (fun k => F (640 + k)) (dirN F)) → Q' M') → T_X0_copyIn 128 640 pl (dirN F) Q' M1 := by
    intro us pl M1 Q' hw hpl1 hlen hq
    refine P_X0_copyIn hw (fun k M2 hk h2 => ?_) hpl1 ⟨by omega, by omega, by omega, by omega⟩ (by omega) hq
    rw [o128 h2]; exact hF _ (by omega) (by omega)
  have bcp : ∀ (us : List (Int × Int)) (p pl : Int) (M1 : zMem) (Q' : zMem → Prop), WC M M1 us → (0 ≤ p ∧ p < 10) → (0 ≤ pl ∧ pl + 64 ≤ 1334) → us.length ≤ 20000 → (∀ M', WC M M' (us ++ cpL pl (fun k => F (64 * p + k)) 64) → Q' M') → T_X0_copyIn 128 (p * 64) pl 64 Q' M1 := by
    intro us p pl M1 Q' hw hp hpl1 hlen hq
    refine P_X0_copyIn (n := 64) hw (fun k M2 hk h2 => ?_) hpl1 ⟨by omega, by omega, by omega, by omega⟩ (by omega) hq
    rw [o128 h2]
    have e : p * 64 + (k : Int) = 64 * p + k := by omega
    rw [e]; exact hF _ (by omega) (by omega)
  unfold T_X0_writeThroughJournal_19
  apply zp2_rule (fun v4 v5 => (0 ≤ v5 ∧ v5 ≤ 10) ∧ v4 = (pgsTo b v5.toNat).length) (fun v4 v5 => (10 - v5).toNat)
  · intro X v4 v5 ⟨h1, h2⟩ hX
    have hn := hpl v5.toNat
    refine ⟨fun q => ?_, fun q => ⟨⟨by omega, by omega⟩, ?_⟩⟩
    · have e5 : v5.toNat = 10 := by omega
      rw [e5, ← hps] at h2
      rw [e5, ← hps] at hn
      rw [h2]
      apply P_X0_write h14 (by omega) (by simp)
      intro M13 h13
      rw [List.nil_append] at h13
      refine ⟨inR_mk (by omega) (by omega), ?_⟩
      unfold T_X0_writeThroughJournal_60
      apply zl2_rule (fun v5 v6 M1 => (0 ≤ v6 ∧ v6 ≤ 10) ∧ v5 = 663 + 65 * (pgsTo b v6.toNat).length ∧ WC M M1 ((662, (ps.length : Int)) :: jbL F (pgsTo b v6.toNat) 663)) (fun _ v6 _ => (10 - v6).toNat)
      · intro X v5 v6 M1 ⟨k1, k2, k3⟩ hX
        have hn6 := hpl v6.toNat
        refine ⟨fun q2 => ?_, fun q2 => ⟨⟨by omega, by omega⟩, ?_⟩⟩
        · have e6 : v6.toNat = 10 := by omega
          rw [e6, ← hps] at k2 k3
          rw [k2]
          apply dcp _ _ _ _ k3 (by omega) (by rw [List.length_cons, jbL_len]; omega)
          intro M7 h7
          apply P_X0_write h7 (by omega) (by rw [List.length_append, List.length_cons, jbL_len, cpL_len]; omega)
          intro M8 h8
          have hA : (662, (ps.length : Int)) :: jbL F ps 663 ++ cpL (663 + 65 * ps.length) (fun k => F (640 + k)) (dirN F) = tjA F ps := rfl
          rw [hA] at h8
          have hAl : (tjA F ps).length ≤ 1000 := by
            rw [← hA, List.length_append, List.length_cons, jbL_len, cpL_len]; omega
          unfold T_X0_writeThroughJournal_130
          apply zl1_rule (fun v6 M1 => (0 ≤ v6 ∧ v6 ≤ 10) ∧ WC M M1 (tjA F ps ++ [(661, 1)] ++ blL F (pgsTo b v6.toNat))) (fun v6 _ => (10 - v6).toNat)
          · intro X v6 M1 ⟨j1, j2⟩ hX
            have hnj := hpl v6.toNat
            have hul : (tjA F ps ++ [(661, 1)] ++ blL F (pgsTo b v6.toNat)).length ≤ 2000 := by
              rw [List.length_append, List.length_append, blL_len, List.length_cons, List.length_nil]; omega
            refine ⟨fun q3 => ?_, fun q3 => ⟨⟨by omega, by omega⟩, ?_⟩⟩
            · have e6 : v6.toNat = 10 := by omega
              rw [e6, ← hps] at j2 hul
              apply dcp _ _ _ _ j2 (by omega) (by omega)
              intro M2 h2
              apply P_X0_write h2 (by omega) (by rw [List.length_append, cpL_len]; omega)
              intro M3 h3
              apply hQ
              unfold tj tjB
              rw [← List.append_assoc]
              exact h3
            · rw [o130 j2]
              obtain ⟨n, hn⟩ : ∃ n : Nat, v6 = n := ⟨v6.toNat, by omega⟩
              subst hn
              rw [Int.toNat_natCast] at j2 hul
              have hbn := hb n (by omega) (by omega)
              rw [hbn.1]
              have en : ((n : Int) + 1).toNat = n + 1 := by omega
              refine ⟨fun hb1 => ?_, fun hb1 => ⟨inR_mk (by omega) (by omega), inR_mk (by omega) (by omega), ?_⟩⟩
              · unfold T_X0_writeThroughJournal_162
                refine ⟨inR_mk (by omega) (by omega), hX _ _ ⟨by omega, ?_⟩ (by omega)⟩
                rw [en, pgsTo, if_neg hb1]; exact j2
              · have e64 : (n : Int) * 64 = 64 * n := by omega
                apply bcp _ n _ _ _ j2 (by omega) (by omega) (by omega)
                intro M5 h5
                unfold T_X0_writeThroughJournal_162
                refine ⟨inR_mk (by omega) (by omega), hX _ _ ⟨by omega, ?_⟩ (by omega)⟩
                rw [en, pgsTo, if_pos hb1, blL_snoc, ← List.append_assoc]
                rw [e64] at h5
                exact h5
          · refine ⟨by omega, ?_⟩
            show WC M M8 (tjA F ps ++ [(661, 1)] ++ [])
            rw [List.append_nil]; exact h8
        · rw [o130 k3]
          obtain ⟨n, hn⟩ : ∃ n : Nat, v6 = n := ⟨v6.toNat, by omega⟩
          subst hn
          rw [Int.toNat_natCast] at k2 k3 hn6
          have hbn := hb n (by omega) (by omega)
          rw [hbn.1]
          have en : ((n : Int) + 1).toNat = n + 1 := by omega
          refine ⟨fun hb1 => ?_, fun hb1 => ?_⟩
          · unfold T_X0_writeThroughJournal_102
            refine ⟨inR_mk (by omega) (by omega), hX _ _ _ ⟨by omega, ?_, ?_⟩ (by omega)⟩
            · rw [en, pgsTo, if_neg hb1]; exact k2
            · rw [en, pgsTo, if_neg hb1]; exact k3
          · apply P_X0_write k3 (by omega) (by rw [List.length_cons, jbL_len]; omega)
            intro M10 h10
            refine ⟨inR_mk (by omega) (by omega), inR_mk (by omega) (by omega), ?_⟩
            apply bcp _ n _ _ _ h10 (by omega) (by omega) (by rw [List.length_append, List.length_cons, jbL_len, List.length_cons, List.length_nil]; omega)
            intro M11 h11
            refine ⟨inR_mk (by omega) (by omega), ?_⟩
            unfold T_X0_writeThroughJournal_102
            refine ⟨inR_mk (by omega) (by omega), hX _ _ _ ⟨by omega, ?_, ?_⟩ (by omega)⟩
            · rw [en, pgsTo, if_pos hb1, len_snoc]; omega
            · rw [en, pgsTo, if_pos hb1, jbL_snoc, ← k2]
              simp only [List.cons_append, List.append_assoc, List.nil_append] at h11 ⊢
              exact h11
      · exact ⟨by omega, rfl, h13⟩
    · obtain ⟨n, hn5⟩ : ∃ n : Nat, v5 = n := ⟨v5.toNat, by omega⟩
      subst hn5
      rw [o130 h14, (hb n (by omega) (by omega)).1]
      have hbn := (hb n (by omega) (by omega)).2
      rw [Int.toNat_natCast] at h2 hn
      refine ⟨inR_mk (by omega) (by omega), inR_mk (by omega) (by omega), hX _ _ ⟨by omega, ?_⟩ (by omega)⟩
      have en : ((n : Int) + 1).toNat = n + 1 := by omega
      rw [en, pgsTo]
      rcases hbn with hbn | hbn
      · rw [if_neg (by omega), hbn]; omega
      · rw [if_pos hbn, len_snoc, hbn]; omega
  · exact ⟨by omega, rfl⟩
