def rv (M : zMem) : Int → Int := fun j => M.2 582 (sg j)
theorem rv_lo {M : zMem} {x : Int} (h : x < 661) : M.2 582 x = rv M x := by unfold rv sg; rw [if_pos h]
theorem rv_hi {M : zMem} {x y : Int} (h : 661 ≤ x) (e : y = x + 5) : M.2 582 y = rv M x := by unfold rv sg; rw [if_neg (by omega), e]
theorem WR_rv {M0 M : zMem} {us : List (Int × Int)} (h : WR M0 M us) : rv M = apw (rv M0) (us.take (nwr (M0.1 587) us.length)) := by
  funext x
  unfold rv
  rw [h.2.1]
  exact apw_sg (f := fun _ => 0) (h := fun _ => 0) rfl
theorem take_ext {F : Int} {us vs : List (Int × Int)} (h : blw F us.length) : nwr F (us ++ vs).length = nwr F us.length ∧ (us ++ vs).take (nwr F us.length) = us.take (nwr F us.length) ∧ blw F (us ++ vs).length := by
  refine ⟨?_, List.take_append_of_le_length (nwr_le _ _), ?_⟩
  · unfold nwr; rw [List.length_append]; split <;> omega
  · rw [List.length_append]; omega
theorem WR_ext {M0 M : zMem} {us vs : List (Int × Int)} (h : WR M0 M us) (hb : blw (M0.1 587) us.length) : WR M0 M (us ++ vs) := by
  obtain ⟨e1, e2, e3⟩ := take_ext (vs := vs) hb
  obtain ⟨w1, w2, w3, w4, w5, w6⟩ := h
  exact ⟨w1, by rw [e1, e2]; exact w2, by rw [e1]; exact w3, fun _ => w4 hb, fun h => absurd e3 h, w6⟩
theorem WC_ext {M0 M : zMem} {us vs : List (Int × Int)} (h : WC M0 M us) (hb : blw (M0.1 65) us.length) : WC M0 M (us ++ vs) := by
  obtain ⟨e1, e2, e3⟩ := take_ext (vs := vs) hb
  obtain ⟨w1, w2, w3, w4, w5, w6⟩ := h
  exact ⟨w1, by rw [e1, e2]; exact w2, by rw [e1]; exact w3, fun _ => w4 hb, fun h => absurd e3 h, w6⟩
theorem clL_pre (g : Int → Int) (W : WT) (n : Nat) : ∀ m : Nat, ∃ rest, clL g W (n + m) = clL g W n ++ rest
  | 0 => ⟨[], (List.append_nil _).symm⟩
  | m + 1 => by
    obtain ⟨r, hr⟩ := clL_pre g W n m
    refine ⟨r ++ clK g (endW g W (n + m : Nat)) (64 * g (641 + 2 * (n + m : Nat)) + 64 - endW g W (n + m : Nat)).toNat, ?_⟩
    show clL g W (n + m) ++ _ = _
    rw [hr, List.append_assoc]
    rfl
theorem P_X10_comesBack {F : Int → Int} {ps : List Int} {Q : zMem → Prop} {M0 M : zMem} (hw : WR M0 M []) (hJ : JW (rv M0) F ps) (hQ : ∀ M', WR M0 M' (tjB F ps ++ [(661, 0)]) → Q M') : T_X10_comesBack Q M := by
  obtain ⟨j1, j2, j3, j4, j5, j6, j7, j8⟩ := hJ
  have hu := j6.1.1
  have hD : ((dirN F : Nat) : Int) = 1 + 2 * F 640 := by unfold dirN; omega
  have hi : ∀ {M1 us}, WR M0 M1 us → (∀ w ∈ us, w ∈ tjB F ps) → ∀ x, 661 ≤ x → rv M1 x = rv M0 x := by
    intro M1 us h hs x hx
    rw [WR_rv h]
    apply apw_out
    intro w hw e
    have := (tjB_mem (hs w (take_mem hw))).1
    rcases this with ⟨p, hp, q⟩ | q
    · have := j7 p hp; omega
    · omega
  have sub : ∀ {a : List Int}, (∀ p ∈ a, p ∈ ps) → ∀ w ∈ blL F a, w ∈ tjB F ps := by
    intro a ha w hw
    unfold blL at hw
    rw [List.mem_flatMap] at hw
    obtain ⟨p, hp, h⟩ := hw
    unfold tjB
    exact List.mem_append_left _ (List.mem_flatMap.mpr ⟨p, ha p hp, h⟩)
  unfold T_X10_comesBack
  refine ⟨⟨by omega, by omega⟩, ?_⟩
  have e662 : M.2 582 667 = ps.length := by rw [rv_hi (x := 662) (by omega) (by omega), hi hw (fun w hw => by cases hw) _ (by omega)]; exact j2
  rw [e662]
  unfold T_X10_comesBack_15
  apply zl2_rule (fun v1 v3 M1 => (0 ≤ v3 ∧ v3 ≤ ps.length) ∧ v1 = 668 + 65 * v3 ∧ WR M0 M1 (blL F (ps.take v3.toNat))) (fun _ v3 _ => ((ps.length : Int) - v3).toNat)
  · intro X v1 v3 M1 ⟨h1, h2, h3⟩ hX
    have hst : ∀ w ∈ blL F (ps.take v3.toNat), w ∈ tjB F ps := sub (fun p hp => take_mem hp)
    have hlen : (blL F (ps.take v3.toNat)).length ≤ 640 := by rw [blL_len, List.length_take]; omega
    refine ⟨fun q => ⟨⟨by omega, by omega⟩, ?_⟩, fun q => ⟨⟨by omega, by omega⟩, ?_⟩⟩
    · have e3 : v3 = ps.length := by omega
      have et : ps.take v3.toNat = ps := List.take_of_length_le (by omega)
      rw [et] at h3 hst hlen
      have e640 : M1.2 582 v1 = F 640 := by
        rw [rv_hi (x := 663 + 65 * ps.length) (by omega) (by omega), hi h3 hst _ (by omega)]
        have := j4 0 (by omega) (by omega)
        simpa using this
      rw [e640, ← hD]
      refine ⟨inR_mk (by omega) (by omega), inR_mk (by omega) (by omega), ?_⟩
      unfold T_X10_comesBack_90
      apply zl1_rule (fun v4 M2 => (0 ≤ v4 ∧ v4 ≤ dirN F) ∧ WR M0 M2 (blL F ps ++ cpL 640 (fun k => F (640 + k)) v4.toNat)) (fun v4 _ => ((dirN F : Int) - v4).toNat)
      · intro X4 v4 M2 ⟨l1, l2⟩ hX4
        refine ⟨fun q2 => ?_, fun q2 => ⟨inR_mk (by omega) (by omega), inR_mk (by omega) (by omega), ⟨by omega, by omega⟩, ?_⟩⟩
        · have e4 : v4.toNat = dirN F := by omega
          rw [e4] at l2
          apply P_X10_writes (p := 661) l2 (by omega) (sg_hi (by omega) (by omega)) (by rw [List.length_append, cpL_len]; omega)
          exact hQ
        · obtain ⟨k, hk⟩ : ∃ k : Nat, v4 = k := ⟨v4.toNat, by omega⟩
          subst hk
          rw [Int.toNat_natCast] at l2
          have ev : M2.2 582 (v1 + k) = F (640 + k) := by
            rw [rv_hi (x := 663 + 65 * ps.length + k) (by omega) (by omega), hi l2 (fun w hw => ?_) _ (by omega)]
            · exact j4 k (by omega) (by omega)
            · rw [List.mem_append] at hw
              rcases hw with hw | hw
              · exact hst w hw
              · obtain ⟨k', a, b⟩ := cpL_mem.mp hw
                unfold tjB
                exact List.mem_append_right _ (cpL_mem.mpr ⟨k', by omega, b⟩)
          rw [ev]
          apply P_X10_writes (p := 640 + k) l2 (by omega) (sg_lo (by omega) rfl) (by rw [List.length_append, cpL_len]; omega)
          intro M3 hw3
          refine ⟨inR_mk (by omega) (by omega), hX4 _ _ ⟨by omega, ?_⟩ (by omega)⟩
          have en : ((k : Int) + 1).toNat = k + 1 := by omega
          rw [en, cpL, ← List.append_assoc]
          exact hw3
      · refine ⟨by omega, ?_⟩
        show WR M0 M1 (blL F ps ++ [])
        rw [List.append_nil]; exact h3
    · obtain ⟨n, hn⟩ : ∃ n : Nat, v3 = n := ⟨v3.toNat, by omega⟩
      subst hn
      rw [Int.toNat_natCast] at h3 hst hlen
      have hil : n < ps.length := by omega
      obtain ⟨p, hp⟩ : ∃ p, ps[n]? = some p := ⟨ps[n], List.getElem?_eq_getElem hil⟩
      have hpb := j7 p (List.mem_of_getElem? hp)
      obtain ⟨b1, b2⟩ := j3 n p hp
      have ep : M1.2 582 v1 = p := by rw [rv_hi (x := 663 + 65 * n) (by omega) (by omega), hi h3 hst _ (by omega)]; exact b1
      rw [ep]
      have hsn : ps.take (n + 1) = ps.take n ++ [p] := by
        rw [List.take_succ, hp]; rfl
      unfold T_X10_comesBack_31
      apply zl1_rule (fun v5 M2 => (0 ≤ v5 ∧ v5 ≤ 64) ∧ WR M0 M2 (blL F (ps.take n) ++ cpL (64 * p) (fun k => F (64 * p + k)) v5.toNat)) (fun v5 _ => (64 - v5).toNat)
      · intro X5 v5 M2 ⟨l1, l2⟩ hX5
        refine ⟨fun q2 => ⟨inR_mk (by omega) (by omega), inR_mk (by omega) (by omega), hX _ _ _ ⟨by omega, by omega, ?_⟩ (by omega)⟩, fun q2 => ⟨inR_mk (by omega) (by omega), inR_mk (by omega) (by omega), inR_mk (by omega) (by omega), inR_mk (by omega) (by omega), ⟨by omega, by omega⟩, ?_⟩⟩
        · have e5 : v5.toNat = 64 := by omega
          have e1 : ((n : Int) + 1).toNat = n + 1 := by omega
          rw [e5] at l2
          rw [e1, hsn, blL_snoc]; exact l2
        · obtain ⟨k, hk⟩ : ∃ k : Nat, v5 = k := ⟨v5.toNat, by omega⟩
          subst hk
          rw [Int.toNat_natCast] at l2
          have ev : M2.2 582 (v1 + 1 + k) = F (64 * p + k) := by
            rw [rv_hi (x := 663 + 65 * n + 1 + k) (by omega) (by omega), hi l2 (fun w hw => ?_) _ (by omega)]
            · exact b2 k (by omega) (by omega)
            · rw [List.mem_append] at hw
              rcases hw with hw | hw
              · exact hst w hw
              · obtain ⟨k', a, b⟩ := cpL_mem.mp hw
                have : w ∈ blL F (ps.take (n + 1)) := by
                  rw [hsn, blL_snoc]
                  exact List.mem_append_right _ (cpL_mem.mpr ⟨k', by omega, b⟩)
                exact sub (fun p hp => take_mem hp) w this
          rw [ev]
          apply P_X10_writes (p := 64 * p + k) l2 (by omega) (sg_lo (by omega) rfl) (by rw [List.length_append, cpL_len]; omega)
          intro M3 hw3
          refine ⟨inR_mk (by omega) (by omega), hX5 _ _ ⟨by omega, ?_⟩ (by omega)⟩
          have en : ((k : Int) + 1).toNat = k + 1 := by omega
          rw [en, cpL, ← List.append_assoc]
          exact hw3
      · refine ⟨by omega, ?_⟩
        show WR M0 M1 (blL F (ps.take n) ++ [])
        rw [List.append_nil]; exact h3
  · refine ⟨by omega, by omega, ?_⟩
    show WR M0 M (blL F (ps.take 0))
    rw [List.take_zero]; exact hw
theorem P_X10_recover_51 {us : List (Int × Int)} {g : Int → Int} {W : WT} {Q : Int → zMem → Prop} {M0 M : zMem} (hw : WR M0 M us) (hg : g = apw (rv M0) us) (hD : DirOK g) (hb : bytesOK g) (hW : PgA g W) (hl : us.length ≤ 20000) (hQ : ∀ M', WR M0 M' (us ++ clL g W (g 640).toNat) → T_X10_recover_87 Q M') : T_X10_recover_51 Q 0 M := by
  have a582 : alen 582 = 1339 := alen_582
  have hu := hD.1
  unfold T_X10_recover_51
  by_cases hbl : blw (M0.1 587) us.length
  · apply zl1_rule (fun v1 M1 => v1 = 0 ∧ M1 = M) (fun v1 _ => 0)
    · intro X v1 M1 ⟨h1, h2⟩ hX
      rw [h2]
      have fin : T_X10_recover_87 Q M := hQ M (WR_ext hw hbl)
      have := (hw.2.2.2.1 hbl).1
      apply P_X10_pagesOf (by omega)
      exact ⟨fun _ => fin, fun _ => ⟨fun _ => fin, fun q => by omega⟩⟩
    · exact ⟨rfl, rfl⟩
  · have hrow : ∀ {M1 vs}, WR M0 M1 (us ++ vs) → ∃ m, rv M1 = apw g (vs.take m) := by
      intro M1 vs h
      obtain ⟨m, hm⟩ := take_past (vs := vs) hbl
      exact ⟨m, by rw [WR_rv h, hm, apw_app, ← hg]⟩
    apply zl1_rule (fun v2 M1 => (0 ≤ v2 ∧ v2 ≤ g 640) ∧ WR M0 M1 (us ++ clL g W v2.toNat)) (fun v2 _ => (g 640 - v2).toNat)
    · intro X v2 M1 ⟨h1, h2⟩ hX
      obtain ⟨n, hn⟩ : ∃ n : Nat, v2 = n := ⟨v2.toNat, by omega⟩
      subst hn
      rw [Int.toNat_natCast] at h2
      obtain ⟨m, hm⟩ := hrow h2
      have hv1 : ∀ w ∈ (clL g W n).take m, okV g W (g 640) w := fun w hw => by
        obtain ⟨i, a, b⟩ := clL_mem (take_mem hw)
        exact ⟨i, by omega, b⟩
      have hk := cl_keep hD hW hv1
      have e640 : M1.2 582 640 = g 640 := by rw [rv_lo (by omega), hm, hk.1 _ (by omega)]
      apply P_X10_pagesOf (by omega)
      rw [e640]
      refine ⟨fun q => ?_, fun q => ⟨fun q2 => ?_, fun q2 => ?_⟩⟩
      · have : n = (g 640).toNat := by omega
        rw [this] at h2
        exact hQ M1 h2
      · have hb2 : blw (M0.1 587) (us ++ clL g W n).length := by
          by_cases hb3 : blw (M0.1 587) (us ++ clL g W n).length
          · exact hb3
          · exact absurd (h2.2.2.2.2.1 hb3).1 q2
        obtain ⟨rest, hr⟩ := clL_pre g W n ((g 640).toNat - n)
        have en : n + ((g 640).toNat - n) = (g 640).toNat := by omega
        rw [en] at hr
        apply hQ
        rw [hr, ← List.append_assoc]
        exact WR_ext h2 hb2
      · have hp := hD.2.1 n (by omega) (by omega)
        have hPg := cl_Pg hD hW hv1 (i := n) ⟨by omega, by omega⟩
        apply P_X10_numberOf (by omega) ⟨by omega, by omega⟩
        rw [rv_lo (by omega), hm, hk.1 _ (by omega)]
        obtain ⟨p, hpp⟩ : ∃ p, p = g (641 + 2 * (n : Int)) := ⟨_, rfl⟩
        rw [← hpp] at hp hPg ⊢
        have hag : agr (rv M1) (M1.2 582) := fun j a b => (rv_lo b).symm
        unfold T_X10_wipes
        apply P_X10_endOf (by omega) (Blk_agr hag (by rw [hm]; exact hPg.1))
        have hend : 64 * p + (2 + (W n).1.length + ((W n).2.1.flatten.length : Int)) = endW g W n := by unfold endW; rw [← hpp]
        have he1 := hPg.1.2.2.2.1
        obtain ⟨en, hen⟩ : ∃ en, en = 2 + (W n).1.length + ((W n).2.1.flatten.length : Int) := ⟨_, rfl⟩
        rw [← hen] at hend ⊢
        unfold T_X10_wipes_9
        apply zl1_rule (fun v4 M1 => (en ≤ v4 ∧ v4 ≤ 64) ∧ WR M0 M1 (us ++ (clL g W n ++ clK g (64 * p + en) (v4 - en).toNat))) (fun v4 _ => (64 - v4).toNat)
        · intro X4 v4 M2 ⟨k1, k2⟩ hX4
          refine ⟨fun q3 => ⟨inR_mk (by omega) (by omega), hX _ _ ⟨by omega, ?_⟩ (by omega)⟩, fun q3 => ⟨inR_mk (by omega) (by omega), inR_mk (by omega) (by omega), ⟨by omega, by omega⟩, ?_⟩⟩
          · have e1 : ((n : Int) + 1).toNat = n + 1 := by omega
            have e2 : (64 * p + 64 - (64 * p + en)).toNat = (v4 - en).toNat := by omega
            rw [e1, clL, ← hend, ← hpp, e2]; exact k2
          · obtain ⟨k, hk4⟩ : ∃ k : Nat, v4 = en + k := ⟨(v4 - en).toNat, by omega⟩
            have ek : (v4 - en).toNat = k := by omega
            rw [ek] at k2
            obtain ⟨m2, hm2⟩ := hrow k2
            have hpl : 64 * p + v4 = 64 * p + en + k := by omega
            have ev : M2.2 582 (64 * p + v4) = g (64 * p + v4) := by
              rw [rv_lo (by omega), hm2]
              apply apw_out
              intro w hw e
              have hw := take_mem hw
              rw [List.mem_append] at hw
              rcases hw with hw | hw
              · obtain ⟨i, a, b, c, d⟩ := clL_mem hw
                have hne : g (641 + 2 * (i : Int)) ≠ p := by rw [hpp]; exact hD.2.2.1 i n (by omega) (by omega) (by omega)
                have h9 : 0 ≤ endW g W i - 64 * g (641 + 2 * i) := by unfold endW; omega
                omega
              · obtain ⟨k', a, b, c⟩ := clK_mem.mp hw
                rw [b] at e
                dsimp only at e
                omega
            have ek1 : (v4 + 1 - en).toNat = k + 1 := by omega
            rw [ev]
            refine ⟨fun q4 => ?_, fun q4 => ⟨inR_mk (by omega) (by omega), inR_mk (by omega) (by omega), ?_⟩⟩
            · unfold T_X10_wipes_40
              refine ⟨inR_mk (by omega) (by omega), hX4 _ _ ⟨by omega, ?_⟩ (by omega)⟩
              rw [ek1, clK, ← hpl, if_pos q4]; exact k2
            · have hlc := clL_len (endW_ge g W) n
              have hlk := clK_len g (64 * p + en) k
              apply P_X10_writes (p := 64 * p + v4) k2 (by omega) (sg_lo (by omega) rfl) (by rw [List.length_append, List.length_append]; omega)
              intro M3 h3
              unfold T_X10_wipes_40
              refine ⟨inR_mk (by omega) (by omega), hX4 _ _ ⟨by omega, ?_⟩ (by omega)⟩
              rw [ek1, clK, ← hpl, if_neg q4, ← List.append_assoc, ← List.append_assoc]
              rw [← List.append_assoc] at h3
              exact h3
        · refine ⟨by omega, ?_⟩
          have : (en - en).toNat = 0 := by omega
          rw [this, clK, List.append_nil]; exact h2
    · refine ⟨by omega, ?_⟩
      show WR M0 M (us ++ [])
      rw [List.append_nil]; exact hw
-- what recovery writes
def preR (row : Int → Int) (pre : List (Int × Int)) : Prop := (row 661 = 0 ∧ pre = []) ∨ ∃ F ps, JW row F ps ∧ pre = tjB F ps ++ [(661, 0)]
theorem pre_ex {row : Int → Int} (h : DOK row 1) : ∃ pre, preR row pre ∧ WFi (apw row pre) ∧ apw row pre 661 = 0 ∧ pre.length ≤ 2000 := by
  rcases h with h | ⟨_, h | ⟨F, ps, h⟩⟩
  · omega
  · exact ⟨[], Or.inl ⟨h.1, rfl⟩, h.2, h.1, by simp⟩
  · refine ⟨tjB F ps ++ [(661, 0)], Or.inr ⟨F, ps, h, rfl⟩, ?_, by rw [apw_snoc, upI_same], ?_⟩
    · have ha : agr (apw row (tjB F ps ++ [(661, 0)])) F := by
        intro j j0 j1
        rw [apw_snoc, upI_ne (by omega)]
        exact JW_all h.2.2.2.2.1 j j0 j1
      exact WFi_agr (agr_symm ha) (WFz_i h.2.2.2.2.2.1)
    · have hu := h.2.2.2.2.2.1.1.1
      have hl := h.2.2.2.2.2.2.2
      have hD : ((dirN F : Nat) : Int) = 1 + 2 * F 640 := by unfold dirN; omega
      unfold tjB
      rw [List.length_append, List.length_append, blL_len, cpL_len, List.length_cons, List.length_nil]
      omega
theorem DOK_rec {row g : Int → Int} {pre : List (Int × Int)} {W : WT} {n : Nat} (hp : preR row pre) (hg : g = apw row pre) (hi : WFi g) (h661 : g 661 = 0) (hW : PgA g W) : (n < (pre ++ clL g W (g 640).toNat).length → DOK (apw row ((pre ++ clL g W (g 640).toNat).take n)) 1) ∧ DOK (apw row (pre ++ clL g W (g 640).toNat)) 0 := by
  have hu := hi.1.1
  have hvs : ∀ w ∈ clL g W (g 640).toNat, okV g W (g 640) w := fun w hw => by
    have := clL_mem hw
    have e : ((g 640).toNat : Int) = g 640 := by omega
    rw [e] at this
    exact this
  constructor
  · intro hn
    refine Or.inr ⟨rfl, ?_⟩
    have part : ∀ m, (apw g ((clL g W (g 640).toNat).take m) 661 = 0 ∧ WFi (apw g ((clL g W (g 640).toNat).take m))) := by
      intro m
      have hv : ∀ w ∈ (clL g W (g 640).toNat).take m, okV g W (g 640) w := fun w hw => hvs w (take_mem hw)
      exact ⟨by rw [(cl_keep hi.1 hW hv).1 661 (by omega)]; exact h661, cl_i hi.1 hi.2.1 hW hv⟩
    rcases take_app3 pre (clL g W (g 640).toNat) n with ⟨e, hn2⟩ | ⟨m, e, _⟩
    · rw [e]
      rcases hp with ⟨h0, hpre⟩ | ⟨F, ps, hJ, hpre⟩
      · have := part 0
        rw [hpre, List.take_nil]
        rw [List.take_zero, hg, hpre] at this
        exact Or.inl this
      · by_cases q : n = pre.length
        · have := part 0
          rw [q, List.take_length]
          rw [List.take_zero, hg] at this
          exact Or.inl this
        · refine Or.inr ⟨F, ps, JW_part hJ (fun w hw => ?_)⟩
          rw [hpre, List.length_append, List.length_cons, List.length_nil] at hn2 q
          rw [hpre, List.take_append_of_le_length (by omega)] at hw
          exact take_mem hw
    · rw [e, apw_app, ← hg]
      exact Or.inl (part m)
  · refine Or.inl ⟨rfl, ?_, ?_⟩
    · rw [apw_app, ← hg, (cl_keep hi.1 hW hvs).1 661 (by omega)]; exact h661
    · rw [apw_app, ← hg]; exact cl_z hi.1 hi.2.1 hW
theorem P_X0_restoreOrder {g : Int → Int} {pre : List (Int × Int)} {W : WT} {Q : zMem → Prop} {M : zMem} (hr : inR (M.1 65)) (hp : preR (M.2 64) pre) (hg : g = apw (M.2 64) pre) (hi : WFi g) (hW : PgA g W) (hl : pre.length ≤ 2000) (hQ : ∀ M', WC M M' (pre ++ clL g W (g 640).toNat) → (blw (M.1 65) (pre ++ clL g W (g 640).toNat).length → Q M') ∧ (¬ blw (M.1 65) (pre ++ clL g W (g 640).toNat).length → ∀ M2, M2 = setS M' 66 0 → Q M2)) : T_X0_restoreOrder Q M := by
  have h31 : ∀ M', WC M M' (pre ++ clL g W (g 640).toNat) → T_X0_restoreOrder_31 Q M' := by
    intro M' h
    unfold T_X0_restoreOrder_31
    by_cases hb : blw (M.1 65) (pre ++ clL g W (g 640).toNat).length
    · have := (h.2.2.2.1 hb).1
      exact ⟨fun _ => (hQ M' h).1 hb, fun q => by omega⟩
    · have := (h.2.2.2.2.1 hb).1
      exact ⟨fun q => absurd this q, fun _ => (hQ M' h).2 hb⟩
  have h20 : ∀ M', WC M M' pre → T_X0_restoreOrder_20 Q M' := by
    intro M' h
    unfold T_X0_restoreOrder_20
    by_cases hb : blw (M.1 65) pre.length
    · have := (h.2.2.2.1 hb).1
      exact ⟨fun _ => h31 M' (WC_ext h hb), fun q => by omega⟩
    · have := (h.2.2.2.2.1 hb).1
      exact ⟨fun q => absurd this q, fun _ => P_X0_clearBehindLogs h hb hg hi.1 hi.2.1 hW (by omega) h31⟩
  unfold T_X0_restoreOrder
  refine P_X0_startAct (M := M) hr ?_
  intro M5 h5
  have e5 : M5.2 64 = M.2 64 := by rw [h5.2.1, List.take_nil]; rfl
  rw [e5]
  refine ⟨⟨by omega, by omega⟩, fun q => ?_, fun q => ?_⟩
  · rcases hp with ⟨h0, hpre⟩ | ⟨F, ps, hJ, hpre⟩
    · exact h20 M5 (by rw [hpre]; exact h5)
    · exact absurd hJ.1 q
  · rcases hp with ⟨h0, hpre⟩ | ⟨F, ps, hJ, hpre⟩
    · omega
    · refine P_X0_doJournalAgain h5 hJ (fun M7 h7 => h20 M7 ?_)
      rw [hpre]; exact h7
