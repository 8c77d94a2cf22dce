-- all packed anew: the image
def cpN (f : Int → Int) (R : List RS) (n : Int) : Int → Int := fun j =>
  if j = 640 then n
  else if 641 ≤ j ∧ j < 641 + 2 * n then (if (j - 641) % 2 = 0 then (j - 641) / 2 else if j = 642 then 0 else lowK (R.getD ((j - 641) / 2).toNat []))
  else if 0 ≤ j ∧ j < 64 * n then wB f (j / 64) (plain (R.getD (j / 64).toNat [])) j
  else f j
theorem cpN_step {f : Int → Int} {R : List RS} {n j : Int} (hn : 0 ≤ n ∧ n < 10) (hj : j ≠ 640) : cpN f R (n + 1) j = if j = 641 + 2 * n then n else if j = 642 + 2 * n then (if n = 0 then 0 else lowK (R.getD n.toNat [])) else wB (cpN f R n) n (plain (R.getD n.toNat [])) j := by
  unfold cpN
  rw [if_neg hj]
  by_cases q1 : j = 641 + 2 * n
  · rw [if_pos q1, if_pos (by omega), if_pos (by omega)]; omega
  · rw [if_neg q1]
    by_cases q2 : j = 642 + 2 * n
    · rw [if_pos q2, if_pos (by omega), if_neg (by omega)]
      by_cases q3 : n = 0
      · rw [if_pos q3, if_pos (by omega)]
      · rw [if_neg q3, if_neg (by omega)]
        have : (j - 641) / 2 = n := by omega
        rw [this]
    · rw [if_neg q2]
      by_cases q3 : 64 * n ≤ j ∧ j < 64 * n + 64
      · rw [if_neg (by omega), if_pos (by omega)]
        have : j / 64 = n := by omega
        rw [this]
        unfold wB
        rw [if_pos q3, if_pos q3]
      · refine Eq.trans ?_ (wB_other (by omega)).symm
        rw [if_neg hj]
        by_cases q4 : 641 ≤ j ∧ j < 641 + 2 * n
        · rw [if_pos (by omega), if_pos q4]
        · rw [if_neg (by omega), if_neg q4]
          by_cases q5 : 0 ≤ j ∧ j < 64 * n
          · rw [if_pos (by omega), if_pos q5]
          · rw [if_neg (by omega), if_neg q5]
theorem cpN_0 {f : Int → Int} {R : List RS} {j : Int} (hj : j ≠ 640) : cpN f R 0 j = f j := by
  unfold cpN
  rw [if_neg hj, if_neg (by omega), if_neg (by omega)]
theorem cps_cons {g : Int → Int} {full : Int} {rs t : RS} {x : Int × List Int} (h : rs = x :: t) : cps g full rs = (ext g full [x] t).1 :: (if (ext g full [x] t).2 = [] then [] else cps g full (ext g full [x] t).2) := by
  have hl := (ext_app g full t [x]).2.1
  unfold cps
  rw [if_neg (by rw [h]; intro e; cases e), h, List.length_cons, chk]
  by_cases q : (ext g full [x] t).2 = []
  · rw [if_pos q, q]
    cases t.length <;> rfl
  · rw [if_neg q, if_neg q, chk_fuel g full t.length (ext g full [x] t).2.length _ (by omega) (Nat.le_refl _)]
theorem getD_mid {α : Type} {a b : List α} {x d : α} {n : Nat} (h : a.length = n) : (a ++ x :: b).getD n d = x := by
  rw [List.getD_eq_getElem?_getD, List.getElem?_append_right (by omega)]
  have : n - a.length = 0 := by omega
  rw [this]
  rfl
theorem part_plain {g : Int → Int} {rs : RS} (h : partOK g rs) (hok : rsOK rs) : (plain rs).length ≤ 120 := by
  rcases h with h | h
  · have := plain_small hok h; omega
  · exact h.2
def fCa : Nat → Prop := fun k => fLd 3 k ∨ fTy k ∨ k = 128 ∨ k = 130
theorem P_X1_compactAll {f : Int → Int} {W : Int → List Int × List (List Int) × RS} {L : Lrn} {Q : Int → zMem → Prop} {M : zMem} (hf : agr (M.2 128) f) (hF : WFi f) (hW : ∀ i, 0 ≤ i → i < f 640 → PgX f i (W i).1 (W i).2.1 (W i).2.2) (hg : trmOK (M.2 133)) (hL : lrnOK L) (hA : Lat (M.2 129) 0 L)
    (hQ0 : 10 < (cps (M.2 133) (120 - L.1) (rI (allF W (f 640).toNat) 0 256)).length → ∀ M', Fr fCa M M' → Q (-5) M')
    (hQ1 : (cps (M.2 133) (120 - L.1) (rI (allF W (f 640).toNat) 0 256)).length ≤ 10 → ∀ M', Fr fCa M M' → M'.2 129 = M.2 129 → agr (M'.2 128) (cpN f (cps (M.2 133) (120 - L.1) (rI (allF W (f 640).toNat) 0 256)) (cps (M.2 133) (120 - L.1) (rI (allF W (f 640).toNat) 0 256)).length) → (∀ j, M'.2 130 j = if 0 ≤ j ∧ j < ((cps (M.2 133) (120 - L.1) (rI (allF W (f 640).toNat) 0 256)).length : Int) then 1 else M.2 130 j) → Q (cps (M.2 133) (120 - L.1) (rI (allF W (f 640).toNat) 0 256)).length M') : T_X1_compactAll Q M := by
  obtain ⟨g, hg0⟩ : ∃ g, g = M.2 133 := ⟨_, rfl⟩
  obtain ⟨r, hr⟩ : ∃ r, r = allF W (f 640).toNat := ⟨_, rfl⟩
  obtain ⟨R, hRR⟩ : ∃ R, R = cps g (120 - L.1) (rI r 0 256) := ⟨_, rfl⟩
  rw [← hg0, ← hr, ← hRR] at hQ0 hQ1
  rw [← hg0] at hg
  have hu := hF.1.1
  have hL0 := hL.1
  have hR : RecOK r := by rw [hr]; exact (allF_ok hF.1 hW _ (by omega)).1
  obtain ⟨c1, c2, c3, c4⟩ := cps_ok (g := g) (full := 120 - L.1) (by omega) (rI r 0 256)
  rw [← hRR] at c1 c2 c3 c4
  have hrok : rsOK R.flatten := by rw [c1]; exact rI_ok hR 0 256
  unfold T_X1_compactAll
  apply P_X8_loadAll (Or.inl rfl) (by rw [alen_128]; omega) (by unfold fLd fTb fUn; decide) hf hF hW
  rw [← hr]
  intro M17 hF17 hT17
  have n128 : M17.2 128 = M.2 128 := hF17.2 128 (by unfold fLd fTb fUn; decide)
  have n129 : M17.2 129 = M.2 129 := hF17.2 129 (by unfold fLd fTb fUn; decide)
  have n130 : M17.2 130 = M.2 130 := hF17.2 130 (by unfold fLd fTb fUn; decide)
  have n133 : M17.2 133 = g := by rw [hg0]; exact hF17.2 133 (by unfold fLd fTb fUn; decide)
  unfold T_X1_compactAll_15
  apply zl2_rule (fun v1 v2 M1 => (0 ≤ v2 ∧ v2 ≤ 10) ∧ (0 ≤ v1 ∧ v1 ≤ 256) ∧ (∃ acc, (acc.length : Int) = v2 ∧ R = acc ++ cps g (120 - L.1) (rI r v1 256)) ∧ Fr fCa M M1 ∧ tabC 3 M1 r ∧ M1.2 129 = M.2 129 ∧ M1.2 133 = g ∧ (∀ j, 0 ≤ j → j < 661 → j ≠ 640 → M1.2 128 j = cpN f R v2 j) ∧ (∀ j, M1.2 130 j = if 0 ≤ j ∧ j < v2 then 1 else M.2 130 j)) (fun _ v2 _ => (10 - v2).toNat)
  · intro X v1 v2 M1 ⟨h1, h2, ⟨acc, h3, h4⟩, h5, h6, h7, h8, h9, h10⟩ hX
    obtain ⟨d1, d2, d3, d4⟩ := cps_ok (g := g) (full := 120 - L.1) (by omega) (rI r v1 256)
    refine ⟨fun q => ?_, fun q => ?_⟩
    · refine hQ0 ?_ M1 h5
      rw [h4, List.length_append]
      omega
    · have tail : ∀ hi part rest, (v1 ≤ hi ∧ hi ≤ 256) → rI r v1 hi = part → R = acc ++ part :: rest → (rest = [] ∧ rI r hi 256 = [] ∨ rI r hi 256 ≠ [] ∧ rest = cps g (120 - L.1) (rI r hi 256)) → ∀ M6, Fr fFb M1 M6 → T_X8_layOut 3 v1 hi (fun y7 M8 => T_X6_packBest 4 193 y7 (fun y9 M10 => ∀ M11 : zMem, M11 = setS M10 135 y9 → T_X1_writeBlock v2 (fun M12 => inR (v2 + 1) ∧ (((0 : Int) ≤ 640 ∧ (640 : Int) < 661) ∧ ∀ M13 : zMem, M13 = setA M12 128 640 (v2 + 1) → inR (2 * v2) ∧ (inR (641 + (2 * v2)) ∧ (((0 : Int) ≤ (641 + (2 * v2)) ∧ (641 + (2 * v2)) < 661) ∧ ∀ M14 : zMem, M14 = setA M13 128 (641 + (2 * v2)) v2 → inR (2 * v2) ∧ (inR (642 + (2 * v2)) ∧ ((¬ v2 = 0 → (T_X8_lowestIn 3 v1 hi (fun y16 => T_X1_compactAll_118 v2 hi (642 + (2 * v2)) y16 X Q M14) M14)) ∧ (v2 = 0 → (T_X1_compactAll_118 v2 hi (642 + (2 * v2)) 0 X Q M14)))))))) M11) M8) M6 := by
        intro hi part rest hhi hpart hRs hrest M6 hF6
        have hmem : part ∈ R := by rw [hRs]; exact List.mem_append_right _ List.mem_cons_self
        have hgetD : R.getD v2.toNat [] = part := by rw [hRs]; exact getD_mid (by omega)
        have hpo := c3 part hmem
        have hok : rsOK part := fun p hp => hrok p (List.mem_flatten.mpr ⟨part, hmem, hp⟩)
        have hp120 := part_plain hpo hok
        have hs62 := part62 hg hpo hok
        have hT6 : tabC 3 M6 r := by
          unfold tabC
          rw [hF6.2 (64 * 3 + 2) (by unfold fFb fPk; decide), hF6.2 (64 * 3 + 3) (by unfold fFb fPk; decide)]
          exact h6
        have F6 : Fr fCa M M6 := Fr_trans h5 (Fr_mono hF6 (fun k h => by
          rcases h with h | h
          · exact Or.inr (Or.inl (Or.inl h))
          · exact Or.inr (Or.inl (Or.inr (Or.inl (Or.inl h))))))
        apply P_X8_layOut hT6 hR ⟨h2.1, hhi.1, hhi.2⟩ (by rw [hpart]; omega)
        rw [hpart]
        intro M8 hF8 hA8
        have a193 : alen 193 = 400 := alen_193
        apply P_X6_packBest (r := 193) (Or.inl rfl) hA8 rfl (by omega) (by omega) (by unfold fPk; decide) (plain_b hok)
        intro M10 hF10 hA10 hb10 M11 hM11
        have F11 : Fr (fun k => k = 193 ∨ fPb 4 k ∨ k = 135) M6 M11 := by
          rw [hM11]
          exact Fr_trans (Fr_trans (Fr_mono hF8 (fun k h => Or.inl h)) (Fr_mono hF10 (fun k h => Or.inr (Or.inl h)))) (Fr_setS (Or.inr (Or.inr rfl)))
        apply P_X1_writeBlock (x := plain part) ⟨h1.1, by omega⟩ (by rw [hM11]; rfl) hs62 (by rw [hM11]; exact hb10) (by rw [hM11]; exact hA10)
        intro M12 hF12 hw12 hv12
        have e128 : M11.2 128 = M1.2 128 := (F11.2 128 (by unfold fPb fPk; decide)).trans (hF6.2 128 (by unfold fFb fPk; decide))
        have e130 : M11.2 130 = M1.2 130 := (F11.2 130 (by unfold fPb fPk; decide)).trans (hF6.2 130 (by unfold fFb fPk; decide))
        have e129 : M12.2 129 = M.2 129 := ((hF12.2 129 (by decide)).trans ((F11.2 129 (by unfold fPb fPk; decide)).trans (hF6.2 129 (by unfold fFb fPk; decide)))).trans h7
        have e133 : M12.2 133 = g := ((hF12.2 133 (by decide)).trans ((F11.2 133 (by unfold fPb fPk; decide)).trans (hF6.2 133 (by unfold fFb fPk; decide)))).trans h8
        have hT12 : tabC 3 M12 r := by
          unfold tabC
          rw [hF12.2 (64 * 3 + 2) (by decide), hF12.2 (64 * 3 + 3) (by decide), F11.2 (64 * 3 + 2) (by unfold fPb fPk; decide), F11.2 (64 * 3 + 3) (by unfold fPb fPk; decide)]
          exact hT6
        have F12 : Fr fCa M M12 := Fr_trans F6 (Fr_trans (Fr_mono F11 (fun k h => by
          rcases h with h | h | h
          · exact Or.inr (Or.inl (Or.inl h))
          · exact Or.inr (Or.inl (Or.inr (Or.inl h)))
          · exact Or.inr (Or.inl (Or.inr (Or.inr (Or.inl h)))))) (Fr_mono hF12 (fun k h => by
          rcases h with h | h
          · exact Or.inr (Or.inr (Or.inl h))
          · exact Or.inr (Or.inr (Or.inr h)))))
        refine ⟨inR_mk (by omega) (by omega), ⟨by omega, by omega⟩, fun M13 hM13 => ⟨inR_mk (by omega) (by omega), inR_mk (by omega) (by omega), ⟨by omega, by omega⟩, fun M14 hM14 => ⟨inR_mk (by omega) (by omega), inR_mk (by omega) (by omega), ?_⟩⟩⟩
        have e14 : M14.2 128 = upI (upI (M12.2 128) 640 (v2 + 1)) (641 + 2 * v2) v2 := by rw [hM14, hM13]; rfl
        have o14 : ∀ k, k ≠ 128 → M14.2 k = M12.2 k := fun k hk => by
          rw [hM14, hM13, setA_2, if_neg hk, setA_2, if_neg hk]
        have hT14 : tabC 3 M14 r := by
          unfold tabC
          rw [o14 (64 * 3 + 2) (by decide), o14 (64 * 3 + 3) (by decide)]; exact hT12
        have last : ∀ s2, s2 = (if v2 = 0 then 0 else lowK part) → T_X1_compactAll_118 v2 hi (642 + 2 * v2) s2 X Q M14 := by
          intro s2 hs2
          unfold T_X1_compactAll_118
          refine ⟨⟨by omega, by omega⟩, fun M2 hM2 => ?_⟩
          have e2 : M2.2 128 = upI (upI (upI (M12.2 128) 640 (v2 + 1)) (641 + 2 * v2) v2) (642 + 2 * v2) s2 := by rw [hM2, setA_2, if_pos rfl, e14]
          have o2 : ∀ k, k ≠ 128 → M2.2 k = M12.2 k := fun k hk => by rw [hM2, setA_2, if_neg hk, o14 k hk]
          have F2 : Fr fCa M M2 := by
            rw [hM2, hM14, hM13]
            have hh : fCa 128 := Or.inr (Or.inr (Or.inl rfl))
            exact Fr_trans (Fr_trans (Fr_trans F12 (Fr_setA hh)) (Fr_setA hh)) (Fr_setA hh)
          have hT2 : tabC 3 M2 r := by
            unfold tabC
            rw [o2 (64 * 3 + 2) (by decide), o2 (64 * 3 + 3) (by decide)]; exact hT12
          have im : ∀ j, 0 ≤ j → j < 661 → j ≠ 640 → M2.2 128 j = cpN f R (v2 + 1) j := by
            intro j j0 j1 j2
            rw [cpN_step ⟨h1.1, by omega⟩ j2, hgetD, e2]
            unfold upI
            by_cases q1 : j = 642 + 2 * v2
            · rw [if_pos q1, if_neg (by omega), if_pos q1]; exact hs2
            · rw [if_neg q1]
              by_cases q2 : j = 641 + 2 * v2
              · rw [if_pos q2, if_pos q2]
              · rw [if_neg q2, if_neg j2, if_neg q2, if_neg q1, hw12 j, e128]
                unfold wB
                by_cases q3 : 64 * v2 ≤ j ∧ j < 64 * v2 + 64
                · rw [if_pos q3, if_pos q3]
                · rw [if_neg q3, if_neg q3]; exact h9 j j0 j1 j2
          have i640 : M2.2 128 640 = v2 + 1 := by
            rw [e2]
            unfold upI
            rw [if_neg (by omega), if_neg (by omega), if_pos rfl]
          have an : ∀ j, M2.2 130 j = if 0 ≤ j ∧ j < v2 + 1 then 1 else M.2 130 j := by
            intro j
            rw [o2 130 (by decide), hv12 j, e130, h10 j]
            by_cases q1 : j = v2
            · rw [if_pos q1, if_pos (by omega)]
            · rw [if_neg q1]
              by_cases q2 : 0 ≤ j ∧ j < v2
              · rw [if_pos q2, if_pos (by omega)]
              · rw [if_neg q2, if_neg (by omega)]
          apply P_X8_lowestIn hT2 (by omega)
          rcases hrest with ⟨hr1, hr2⟩ | ⟨hr1, hr2⟩
          · rw [hr2]
            refine ⟨fun q => absurd rfl q, fun _ => ⟨inR_mk (by omega) (by omega), ?_⟩⟩
            have hlen : (R.length : Int) = v2 + 1 := by rw [hRs, hr1, List.length_append]; simp; omega
            rw [← hlen]
            refine hQ1 (by omega) M2 F2 (by rw [o2 129 (by decide)]; exact e129) ?_ ?_
            · intro j j0 j1
              by_cases q1 : j = 640
              · rw [q1, i640, hlen]
                unfold cpN
                rw [if_pos rfl]
              · rw [im j j0 j1 q1, hlen]
            · intro j
              rw [an j, hlen]
          · obtain ⟨p, hp1, hp2⟩ := lowK_mem hr1
            have hk := (rl_keys r (256 - hi).toNat hi).1 p hp1
            refine ⟨fun _ => ⟨inR_mk (by omega) (by omega), hX _ _ _ ⟨by omega, by omega, ⟨acc ++ [part], ?_, ?_⟩, F2, hT2, ?_, ?_, im, an⟩ (by omega)⟩, fun q => by omega⟩
            · rw [List.length_append]; simp; omega
            · rw [hRs, hr2, List.append_assoc]; rfl
            · rw [o2 129 (by decide)]; exact e129
            · rw [o2 133 (by decide)]; exact e133
        refine ⟨fun q0 => ?_, fun q0 => last 0 (by rw [if_pos q0])⟩
        apply P_X8_lowestIn hT14 ⟨h2.1, hhi.1, hhi.2⟩
        rw [hpart]
        exact last _ (by rw [if_neg q0])
      apply P_X1_farthestEnd h6 hR h2 (by rw [h8]; exact hg) hL (by rw [h7]; exact hA)
      · intro hnil M6 hF6
        refine tail 256 [] [] (by omega) hnil ?_ (Or.inl ⟨rfl, rI_nil r (by omega)⟩) M6 hF6
        rw [h4]
        unfold cps
        rw [if_pos hnil]
      · rw [h8]
        intro x t hxt hi hhi he1 he2 M6 hF6
        have hcc := cps_cons (g := g) (full := 120 - L.1) hxt
        rw [← he1, ← he2] at hcc
        refine tail hi _ _ hhi rfl (by rw [h4, hcc]) ?_ M6 hF6
        by_cases q2 : rI r hi 256 = []
        · rw [if_pos q2]; exact Or.inl ⟨rfl, q2⟩
        · rw [if_neg q2]; exact Or.inr ⟨q2, rfl⟩
  · refine ⟨by omega, by omega, ⟨[], rfl, by rw [hRR]; rfl⟩, Fr_mono hF17 (fun k h => Or.inl h), hT17, n129, n133, fun j j0 j1 j2 => ?_, fun j => ?_⟩
    · rw [n128, cpN_0 j2]; exact hf j j0 j1
    · rw [n130, if_neg (by omega)]
