theorem spRes_ok {g : Int → Int} {r : Rec} {L0 : Lrn} (hg : trmOK g) (hL0 : lrnOK L0) : (spRes g r L0).1.flatten = rI r 0 256 ∧ neP (spRes g r L0).1 ∧ (spRes g r L0).1 ≠ [] ∧ (∀ rs ∈ (spRes g r L0).1, partOK g rs) ∧ lrnOK (spRes g r L0).2 := by
  have hrl := rI_len r (low := 0) (high := 256) (by omega)
  have hsm : smu [rI r 0 256] = (2 * max (rI r 0 256).length 1 - 1) + 0 := rfl
  obtain ⟨rest, z1, z2, z3, z4, z5⟩ := spG_all hg 512 [rI r 0 256] L0 [] (by rw [hsm]; omega) hL0
  rw [List.nil_append] at z1
  have e : (spRes g r L0).1 = rest := z1
  rw [e]
  have hfl : rest.flatten = rI r 0 256 := by rw [z2]; simp
  by_cases h : rI r 0 256 = []
  · have : spRes g r L0 = ([[]], lrnG g 1 L0) := by
      unfold spRes
      rw [h, spG_fit (n := 511) (by unfold bigS; simp) (by unfold fitS; rw [if_pos (by simp)]), spG_nil]; rfl
    have hr : rest = [[]] := by rw [← e, this]
    refine ⟨hfl, Or.inr (by rw [hr]; rfl), by rw [hr]; simp, z4, z5⟩
  · have hne : ∀ rs ∈ rest, rs ≠ [] := z3 (fun rs hrs => by rw [mem_single hrs]; exact h)
    refine ⟨hfl, Or.inl hne, ?_, z4, z5⟩
    intro hr
    apply h
    rw [← hfl, hr]; rfl
theorem part_of {r : Rec} {R : List RS} (hf : R.flatten = rI r 0 256) {rs : RS} (h : rs ∈ R) (hR : RecOK r) : rsOK rs := by
  intro p hp
  exact rI_ok hR 0 256 p (by rw [← hf]; exact List.mem_flatten.mpr ⟨rs, h, hp⟩)
def fSg : Nat → Prop := fun k => fSr k ∨ k = 606
theorem P_X10_spreadsPage {i0 : Int} {r : Rec} {L0 : Lrn} {Q : Int → zMem → Prop} {M0 : zMem} (hT0 : tabR M0 r) (hR : RecOK r) (h4 : (plain (rI r 0 256)).length ≤ 400) (hg : trmOK (M0.2 579)) (hL0 : lrnOK L0) (hA0 : Lat (M0.2 583) 661 L0) (hD : DirOK (M0.2 583)) (hi : 0 ≤ i0 ∧ i0 < M0.2 583 640) (hk : keysAt (M0.2 583) i0 r) (hm0 : 0 ≤ M0.1 606 ∧ M0.1 606 < 1024)
    (hQ0 : 10 < M0.2 583 640 + (spRes (M0.2 579) r L0).1.length - 1 → ∀ M', Fr fSg M0 M' → Q (-5) M')
    (hQ1 : M0.2 583 640 + (spRes (M0.2 579) r L0).1.length - 1 ≤ 10 → ∀ M', Fr fSg M0 M' → agr (M'.2 583) (spW (M0.2 583) i0 0 (spRes (M0.2 579) r L0).1) → Lat (M'.2 583) 661 (spRes (M0.2 579) r L0).2 → (0 ≤ M'.1 606 ∧ M'.1 606 < 1024) → (∀ p, 0 ≤ p → p < 10 → bt (M'.1 606) p = if p ∈ spP (M0.2 583) i0 0 (spRes (M0.2 579) r L0).1 then 1 else bt (M0.1 606) p) → Q (spCode (spRes (M0.2 579) r L0).1.length) M') : T_X10_spreadsPage i0 Q M0 := by
  obtain ⟨f0, hf0⟩ : ∃ f, f = M0.2 583 := ⟨_, rfl⟩
  obtain ⟨g, hg0⟩ : ∃ g, g = M0.2 579 := ⟨_, rfl⟩
  obtain ⟨R, hRR⟩ : ∃ R, R = spRes g r L0 := ⟨_, rfl⟩
  rw [← hf0] at hD hi hQ0 hQ1 hk
  rw [← hg0] at hg hQ0 hQ1
  have hok := spRes_ok (r := r) hg hL0
  rw [← hRR] at hQ0 hQ1 hok
  obtain ⟨r1, r2, r3, r4, r5⟩ := hok
  have hu := hD.1
  have hrl := rI_len r (low := 0) (high := 256) (by omega)
  have hn1 : 1 ≤ R.1.length := by
    cases hq : R.1 with
    | nil => exact absurd hq r3
    | cons a b => simp
  have hn256 : R.1.length ≤ 256 := by
    rcases r2 with r2 | r2
    · have := flat_ne_len r2; rw [r1] at this; omega
    · omega
  unfold T_X10_spreadsPage
  apply P_X10_numberOf (by rw [alen_583]; omega) (by omega)
  rw [← hf0]
  intro M11 hM11
  have m11 : M11.2 = M0.2 := by rw [hM11]; rfl
  apply P_X10_spreads (r := r) (L0 := L0) (by unfold tabR; rw [m11]; exact hT0) hR h4 (by rw [m11, ← hg0]; exact hg) hL0 (by rw [m11]; exact hA0) (by rw [hM11]; rfl)
  rw [m11, ← hg0, ← hRR]
  intro M12 hF12 c1 c2 c3 c4
  rw [c1]
  have F12 : Fr fSg M0 M12 := Fr_trans (by rw [hM11]; exact Fr_setS (Or.inl (Or.inr (Or.inr (Or.inr (Or.inl rfl)))))) (Fr_mono hF12 (fun k h => Or.inl h))
  have a12 : agr f0 (M12.2 583) := fun j h0 h1 => by rw [c3 j h1, hf0]
  obtain ⟨f1, hf1⟩ : ∃ f, f = M12.2 583 := ⟨_, rfl⟩
  rw [← hf1] at a12
  have e640 : f1 640 = f0 640 := (a12 640 (by omega) (by omega)).symm
  have hD1 : DirOK f1 := agr_dir a12 hD
  have hk1 : keysAt f1 i0 r := keysAt_agr a12 hu.2 hi hk
  have hi1 : 0 ≤ i0 ∧ i0 < f1 640 := by rw [e640]; exact hi
  refine ⟨inR_mk (by omega) (by omega), ?_⟩
  apply P_X10_pagesOf (by rw [alen_583]; omega)
  rw [← hf1, e640]
  refine ⟨inR_mk (by omega) (by omega), fun hcap => ?_, fun hcap => hQ0 (by omega) M12 F12⟩
  have hcap0 : f0 640 + R.1.length - 1 ≤ 10 := by omega
  have hcap1 : f1 640 + R.1.length - 1 ≤ 10 := by omega
  have hdN := spW_dirN hD1 hi1 hk1 r1 r2 hcap1
  have hagr := spW_agr (i := i0) hi.1 (by omega) R.1 0 f0 f1 a12 (fun n hn => by
    by_cases h0 : n = 0
    · subst h0; rw [List.take_zero]; exact hu.2
    · have := spW_dirN hD hi hk r1 r2 hcap0 n (by omega) (by omega)
      rw [this.2]; omega)
  have hpg : f1 (641 + 2 * i0) = f0 (641 + 2 * i0) := (a12 _ (by omega) (by omega)).symm
  unfold T_X10_spreadsPage_42
  apply zl1_rule (fun v3 M => (0 ≤ v3 ∧ v3 ≤ R.1.length) ∧ M.2 583 = spW f1 i0 0 (R.1.take v3.toNat) ∧ (0 ≤ M.1 606 ∧ M.1 606 < 1024) ∧ (∀ p, 0 ≤ p → p < 10 → bt (M.1 606) p = if p ∈ spP f1 i0 0 (R.1.take v3.toNat) then 1 else bt (M0.1 606) p) ∧ Fr fSg M12 M ∧ M.1 600 = R.1.length ∧ M.2 598 = M12.2 598 ∧ M.2 599 = M12.2 599) (fun v3 _ => (R.1.length - v3).toNat)
  · intro X v3 M ⟨e1, e2, e3, e4, e5, e6, e7, e8⟩ hX
    rw [e6]
    refine ⟨fun h => ?_, fun h => ?_⟩
    · have hv : v3.toNat = R.1.length := by omega
      rw [hv, List.take_length] at e2 e4
      have hq := hQ1 hcap0 M (Fr_trans F12 e5) (by rw [e2]; exact agr_symm hagr.1) (by
        have hh := spW_hi hD1 hi1 hk1 r1 r2 hcap1 R.1.length (Nat.le_refl _)
        rw [List.take_length] at hh
        rw [hf1] at hh
        rw [e2, hf1]
        unfold Lat
        rw [hh _ (by omega), hh _ (by omega), hh _ (by omega), hh _ (by omega)]
        exact c4) e3 (by rw [hagr.2]; exact e4)
      unfold spCode at hq
      refine ⟨fun q => ⟨inR_mk (by omega) (by omega), ?_⟩, fun q => ?_⟩
      · rw [if_neg (by omega)] at hq; exact hq
      · rw [if_pos (by omega)] at hq; exact hq
    · obtain ⟨k, hkk⟩ : ∃ k : Nat, v3 = k := ⟨v3.toNat, by omega⟩
      subst hkk
      rw [Int.toNat_natCast] at e2 e4
      have hkl : k < R.1.length := by omega
      have hpart := c2 k hkl
      rw [← e7, ← e8] at hpart
      obtain ⟨rs, hrs⟩ : ∃ rs, rs = rI r (M.2 598 k) (M.2 599 k + 1) := ⟨_, rfl⟩
      rw [← hrs] at hpart
      have hmem : rs ∈ R.1 := List.mem_of_getElem? hpart.2
      have hrsok := part_of r1 hmem hR
      have hp62 := part62 hg (r4 rs hmem) hrsok
      have hpl : (plain rs).length ≤ 400 := by
        have := plain_mem_le hmem
        rw [r1] at this; omega
      have htk : R.1.take (k + 1) = R.1.take k ++ [rs] := by rw [List.take_succ, hpart.2]; rfl
      have htl : (R.1.take k).length = k := by rw [List.length_take]; omega
      have hT : tabR M r := by
        have F := Fr_trans F12 e5
        unfold tabR
        rw [F.2 596 (by unfold fSg fSr fTyr fRp; decide), F.2 597 (by unfold fSg fSr fTyr fRp; decide)]
        exact hT0
      -- the page's block and its place in the directory
      have wr : ∀ pg, (0 ≤ pg ∧ pg < 10) → pg = pgN (spW f1 i0 0 (R.1.take k)) i0 k → T_X10_spreadsPage_62 i0 (f0 (641 + 2 * i0)) k pg X Q M := by
        intro pg hpg0 hpgn
        unfold T_X10_spreadsPage_62
        refine ⟨⟨by omega, by omega⟩, ⟨by omega, by omega⟩, ?_⟩
        apply P_X10_shapes hT hR hpart.1 hpg0 (by rw [← hrs]; exact hpl) (by rw [← hrs]; exact plain_b hrsok) (by rw [← hrs]; exact hp62)
        rw [← hrs]
        intro M1 hF1 hw1 M2 hM2
        have m606 : M1.1 606 = M.1 606 := hF1.1 606 (by unfold fRp; decide)
        have n606 : M2.1 606 = zor (M.1 606) (zshl 1 pg) := by rw [hM2, m606]; rfl
        have hb2 : (0 ≤ M2.1 606 ∧ M2.1 606 < 1024) := by rw [n606]; exact or_b e3 hpg0
        have hbt2 : ∀ p, 0 ≤ p → p < 10 → bt (M2.1 606) p = if p ∈ spP f1 i0 0 (R.1.take (k + 1)) then 1 else bt (M0.1 606) p := by
          intro p hp0 hp1
          rw [n606, bt_or e3 hpg0 ⟨hp0, hp1⟩, htk, spP_snoc, htl, Nat.zero_add, ← hpgn, e4 p hp0 hp1]
          by_cases hj : p = pg
          · rw [if_pos hj, if_pos (List.mem_append_right _ (by rw [hj]; exact List.mem_cons_self))]
          · rw [if_neg hj]
            by_cases hj2 : p ∈ spP f1 i0 0 (R.1.take k)
            · rw [if_pos hj2, if_pos (List.mem_append_left _ hj2)]
            · rw [if_neg hj2, if_neg (fun h => by
                rw [List.mem_append] at h
                rcases h with h | h
                · exact hj2 h
                · exact hj (mem_single h))]
        have m2 : M2.2 = M1.2 := by rw [hM2]; rfl
        have G2 : ∀ j, j ≠ 606 → M2.1 j = M1.1 j := fun j hj => by rw [hM2]; exact if_neg hj
        have FF1 : Fr fSg M M1 := Fr_mono hF1 (fun k h => Or.inl (Or.inl h))
        have FF2 : Fr fSg M M2 := Fr_trans FF1 (by rw [hM2]; exact Fr_setS (Or.inr rfl))
        have hw2 : M2.2 583 = wB (spW f1 i0 0 (R.1.take k)) pg (plain rs) := by rw [m2, funext hw1, e2]
        have x598 : M2.2 598 = M.2 598 := by rw [m2]; exact hF1.2 598 (by unfold fRp; decide)
        have x599 : M2.2 599 = M.2 599 := by rw [m2]; exact hF1.2 599 (by unfold fRp; decide)
        have fin : ∀ M5, Fr (fun k => k = 583) M2 M5 → M5.2 583 = spW f1 i0 0 (R.1.take (k + 1)) → T_X10_spreadsPage_124 i0 (f0 (641 + 2 * i0)) k X Q M5 := by
          intro M5 hF5 h5
          unfold T_X10_spreadsPage_124
          refine ⟨inR_mk (by omega) (by omega), hX _ _ ?_ (by omega)⟩
          have ek : ((k : Int) + 1).toNat = k + 1 := by omega
          rw [ek]
          refine ⟨⟨by omega, by omega⟩, h5, ?_, ?_, Fr_trans e5 (Fr_trans FF2 (Fr_mono hF5 (fun k h => Or.inl (Or.inl (Or.inl h))))), ?_, ?_, ?_⟩
          · rw [hF5.1 606 (by decide)]; exact hb2
          · rw [hF5.1 606 (by decide)]; exact hbt2
          · rw [hF5.1 600 (by decide), G2 600 (by decide), hF1.1 600 (by unfold fRp; decide)]; exact e6
          · rw [hF5.2 598 (by decide), x598]; exact e7
          · rw [hF5.2 599 (by decide), x599]; exact e8
        refine ⟨fun hk0 => ?_, fun hk0 => ?_⟩
        · have hk00 : k = 0 := by omega
          refine fin M2 (Fr_refl M2) ?_
          rw [hw2, htk, spW_snoc, htl, Nat.zero_add, hk00]
          unfold wr1
          rw [if_pos rfl, hpgn, hk00]
          rfl
        · have hd := hdN k (by omega) (by omega)
          have hne1 : rs ≠ [] := by
            rcases r2 with r2 | r2
            · exact r2 rs hmem
            · omega
          refine ⟨inR_mk (by omega) (by omega), ⟨by omega, by omega⟩, ⟨by omega, by omega⟩, ?_⟩
          rw [x598, x599]
          have hlh : M.2 598 k ≤ M.2 599 k := by
            by_cases q : M.2 598 k ≤ M.2 599 k
            · exact q
            · exfalso; apply hne1; rw [hrs]; exact rI_nil r (by omega)
          apply P_X10_lowestKey (r := r) (by unfold tabR; rw [m2, hF1.2 596 (by unfold fRp; decide), hF1.2 597 (by unfold fRp; decide)]; exact hT) ⟨hpart.1.1, hlh, by omega⟩
          intro y4 hy1 hy2 hy3
          have hy : y4 = lowK rs := by
            rw [hrs]
            exact lowK_at hlh hy1 hy2 hy3 (by rw [← hrs]; exact hne1)
          have w640 : M2.2 583 640 = f1 640 + k - 1 := by rw [hw2, wB_dir hpg0 (by omega)]; exact hd.2
          apply P_X10_comes (by rw [w640]; omega) (by rw [w640]; omega)
          intro M5 hF5 hw5
          refine fin M5 hF5 ?_
          rw [funext hw5, hw2, inD_wB hpg0 (by omega), htk, spW_snoc, htl, Nat.zero_add]
          unfold wr1
          rw [if_neg (by omega), hy, hpgn]
          unfold pgN
          rw [if_neg (by omega)]
      refine ⟨fun hk0 => ?_, fun hk0 => ?_⟩
      · have hd := hdN k (by omega) (by omega)
        apply P_X10_lowestFree (by rw [e2]; exact hd.1)
        rw [e2]
        intro p hp
        have hok := lfN_ok hd.1 (by rw [hd.2]; omega)
        rw [lfN_eq hp] at hok
        refine wr p hok.1 ?_
        unfold pgN
        rw [if_neg (by omega), lfN_eq hp]
      · have hk00 : k = 0 := by omega
        refine wr _ (hD.2.1 i0 hi.1 hi.2) ?_
        subst hk00
        unfold pgN
        rw [if_pos rfl, List.take_zero]
        exact hpg.symm
  · refine ⟨⟨by omega, by omega⟩, hf1.symm, ?_, ?_, Fr_refl M12, c1, rfl, rfl⟩
    · rw [F12.1 606 |> fun _ => hF12.1 606 (by unfold fSr fTyr fRp; decide), hM11]; exact hm0
    · intro p hp0 hp1
      rw [hF12.1 606 (by unfold fSr fTyr fRp; decide), hM11]
      exact (if_neg (by intro h; cases h)).symm
