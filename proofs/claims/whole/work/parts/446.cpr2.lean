def tlC (g : Int → Int) (full : Int) (rs : RS) : List RS := if rs = [] then [] else cps g full rs
theorem tlC_nil {g : Int → Int} {full : Int} : tlC g full [] = [] := if_pos rfl
theorem tlC_cons {g : Int → Int} {full : Int} {rs t : RS} {x : Int × List Int} (h : rs = x :: t) : tlC g full rs = (ext g full [x] t).1 :: tlC g full (ext g full [x] t).2 := by
  unfold tlC
  rw [if_neg (by rw [h]; intro e; cases e), cps_cons h]
theorem PartsC_congr {r : Rec} {pl ph pl' ph' : Int → Int} {acc : List RS} (h : PartsC r pl ph acc) (h1 : ∀ j : Int, 0 ≤ j → j < acc.length → pl' j = pl j ∧ ph' j = ph j) : PartsC r pl' ph' acc := by
  intro k hk
  obtain ⟨e1, e2⟩ := h1 k (by omega) (by omega)
  rw [e1, e2]
  exact h k hk
theorem PartsC_snoc {r : Rec} {pl ph : Int → Int} {acc : List RS} {a b : Int} (h : PartsC r pl ph acc) (hb : 0 ≤ a ∧ a ≤ b + 1 ∧ b ≤ 255) (hl : lowK (rI r a (b + 1)) = a) : PartsC r (upI pl acc.length a) (upI ph acc.length b) (acc ++ [rI r a (b + 1)]) := by
  intro k hk
  rw [List.length_append] at hk
  by_cases q : k < acc.length
  · unfold upI
    rw [if_neg (by omega), if_neg (by omega), List.getElem?_append_left q]
    exact h k q
  · have : k = acc.length := by simp at hk; omega
    subst this
    unfold upI
    rw [if_pos rfl, if_pos rfl, List.getElem?_append_right (Nat.le_refl _), Nat.sub_self]
    exact ⟨hb, rfl, fun _ => hl⟩
def fCz : Nat → Prop := fun k => fLr k ∨ fCq k
theorem P_X10_compactL {f : Int → Int} {W : Int → List Int × List (List Int) × RS} {L : Lrn} {Q : Int → zMem → Prop} {M : zMem} (hf : agr (M.2 583) f) (hF : WFi f) (hW : ∀ i, 0 ≤ i → i < f 640 → PgX f i (W i).1 (W i).2.1 (W i).2.2) (hg : trmOK (M.2 579)) (hL : lrnOK L) (hA : Lat (M.2 583) 661 L)
    (hQ0 : 10 < (cps (M.2 579) (120 - L.1) (rI (allF W (f 640).toNat) 0 256)).length → ∀ M', Fr fCz M M' → T_X10_refuses (-5) (fun y20 M21 => Q y20 M21) M')
    (hQ1 : (cps (M.2 579) (120 - L.1) (rI (allF W (f 640).toNat) 0 256)).length ≤ 10 → ∀ M', Fr fCz M M' → Lat (M'.2 583) 661 L → agr (M'.2 583) (cpN f (cps (M.2 579) (120 - L.1) (rI (allF W (f 640).toNat) 0 256)) (cps (M.2 579) (120 - L.1) (rI (allF W (f 640).toNat) 0 256)).length) → (0 ≤ M'.1 606 ∧ M'.1 606 < 1024) → (∀ p, 0 ≤ p → p < 10 → bt (M'.1 606) p = if p < ((cps (M.2 579) (120 - L.1) (rI (allF W (f 640).toNat) 0 256)).length : Int) then 1 else 0) → M'.1 600 = (cps (M.2 579) (120 - L.1) (rI (allF W (f 640).toNat) 0 256)).length → T_X10_keeps 5 (fun M4 => T_X10_beginsWriting (fun M5 => T_X10_throughJournal (fun M6 => ∀ M7 : zMem, M7 = setS M6 612 0 → T_X10_ends (M7.1 600) (fun y8 M9 => Q y8 M9) M7) M5) M4) M') :
    T_X10_laysAll 583 (fun M32 => ∀ M33 : zMem, M33 = setS M32 600 0 → T_X10_lowestKey 0 256 (fun y34 => T_X10_compact_45 Q y34 M33) M33) M := by
  obtain ⟨g, hg0⟩ : ∃ g, g = M.2 579 := ⟨_, rfl⟩
  obtain ⟨r, hr⟩ : ∃ r, r = allF W (f 640).toNat := ⟨_, rfl⟩
  obtain ⟨R, hRR⟩ : ∃ R, R = cps g (120 - L.1) (rI r 0 256) := ⟨_, rfl⟩
  rw [← hg0, ← hr, ← hRR] at hQ0 hQ1
  rw [← hg0] at hg
  have hu := hF.1.1
  have hL0 := hL.1
  have hR : RecOK r := by rw [hr]; exact (allF_ok hF.1 hW _ (by omega)).1
  obtain ⟨c1, c2, c3, c4⟩ := cps_ok (g := g) (full := 120 - L.1) (by omega) (rI r 0 256)
  rw [← hRR] at c1 c2 c3 c4
  have hrok : rsOK R.flatten := by rw [c1]; exact rI_ok hR 0 256
  apply P_X10_laysAll (by rw [alen_583]; omega) (by unfold fLr fTr fUr; decide) hf hF hW
  rw [← hr]
  intro M32 hF32 hT32 M33 hM33
  have F33 : Fr fCz M M33 := by rw [hM33]; exact Fr_trans (Fr_mono hF32 (fun k h => Or.inl h)) (Fr_setS (Or.inr (Or.inr (Or.inr (Or.inr (Or.inr (Or.inl rfl)))))))
  have hT33 : tabR M33 r := by rw [hM33]; exact hT32
  have n583 : M33.2 583 = M.2 583 := by rw [hM33]; exact hF32.2 583 (by unfold fLr fTr fUr; decide)
  have n579 : M33.2 579 = g := by rw [hM33, hg0]; exact hF32.2 579 (by unfold fLr fTr fUr; decide)
  have n600 : M33.1 600 = 0 := by rw [hM33]; rfl
  clear hF32 hT32 hM33
  apply P_X10_lowestKey hT33 (by omega)
  intro k0 hk0 hk1 hk2
  unfold T_X10_compact_45
  apply zl1_rule (fun v1 M1 => (0 ≤ v1 ∧ v1 ≤ 256) ∧ (v1 < 256 → r v1 ≠ none) ∧ (∃ acc, M1.1 600 = acc.length ∧ (acc.length : Int) ≤ v1 ∧ acc ++ tlC g (120 - L.1) (rI r v1 256) = tlC g (120 - L.1) (rI r 0 256) ∧ PartsC r (M1.2 598) (M1.2 599) acc) ∧ Fr fCz M M1 ∧ tabR M1 r ∧ M1.2 583 = M.2 583 ∧ M1.2 579 = g) (fun v1 _ => (256 - v1).toNat)
  · intro X v1 M1 ⟨h1, h2, ⟨acc, h3, h4, h5, h6⟩, h7, h8, h9, h10⟩ hX
    rw [h3]
    refine ⟨fun q => ?_, fun q => ?_⟩
    · have e1 : v1 = 256 := by omega
      rw [e1, rI_nil r (Int.le_refl _), tlC_nil, List.append_nil] at h5
      have fin : R.length ≤ 10 → ∀ M2, Fr fCz M M2 → tabR M2 r → M2.2 583 = M.2 583 → M2.1 600 = R.length → PartsC r (M2.2 598) (M2.2 599) R → T_X10_compact_150 Q M2 := by
        intro hl M2 hF2 hT2 hd2 h62 hP2
        unfold T_X10_compact_150
        refine ⟨⟨by omega, by omega⟩, fun M13 hM13 => ?_⟩
        have e13 : M13.2 583 = upI (M.2 583) 640 R.length := by rw [hM13, setA_2, if_pos rfl, hd2, h62]
        have o13 : ∀ k, k ≠ 583 → M13.2 k = M2.2 k := fun k hk => by rw [hM13, setA_2, if_neg hk]
        have s13 : M13.1 = M2.1 := by rw [hM13]; rfl
        have F13 : Fr fCz M M13 := by rw [hM13]; exact Fr_trans hF2 (Fr_setA (Or.inr (Or.inr (Or.inl rfl))))
        apply P_X10_compact_164 (f := f) (R := R) (r := r) (g := g)
        · unfold tabR; rw [o13 596 (by decide), o13 597 (by decide)]; exact hT2
        · exact hR
        · exact hg
        · omega
        · exact c3
        · exact hrok
        · rw [s13]; exact h62
        · rw [o13 598 (by decide), o13 599 (by decide)]; exact hP2
        · intro j j0 j1
          rw [e13]
          unfold upI
          by_cases q1 : j = 640
          · rw [if_pos q1, if_pos q1]
          · rw [if_neg q1, if_neg q1]; exact hf j j0 j1
        · intro M' hF' hh1 hh2 hh3 hh4 hh5
          refine hQ1 hl M' (Fr_trans F13 (Fr_mono hF' (fun k h => Or.inr h))) ?_ hh2 hh3 hh4 hh5
          unfold Lat at hA ⊢
          rw [hh1 661 (by omega), hh1 (661 + 1) (by omega), hh1 (661 + 2) (by omega), hh1 (661 + 3) (by omega), e13]
          unfold upI
          rw [if_neg (by omega), if_neg (by omega), if_neg (by omega), if_neg (by omega)]
          exact hA
      by_cases hne : rI r 0 256 = []
      · rw [hne, tlC_nil] at h5
        subst h5
        have eR : R = [[]] := by rw [hRR]; unfold cps; rw [if_pos hne]
        refine ⟨fun _ => ⟨fun q2 => absurd rfl q2, fun _ => ⟨⟨by omega, by omega⟩, fun M17 hM17 => ⟨⟨by omega, by omega⟩, fun M18 hM18 M19 hM19 => ?_⟩⟩⟩, fun q2 => absurd (show ((([] : List RS).length : Nat) : Int) ≤ 10 by simp) q2⟩
        have e00 : rI r 0 1 = [] := by
          have := rI_split r (low := 0) (mid := 1) (high := 256) (by omega) (by omega)
          rw [hne] at this
          exact (List.append_eq_nil_iff.mp this.symm).1
        apply fin (by rw [eR]; simp) M19
        · rw [hM19, hM18, hM17]
          exact Fr_trans (Fr_trans (Fr_trans h7 (Fr_setA (Or.inr (Or.inr (Or.inr (Or.inl rfl)))))) (Fr_setA (Or.inr (Or.inr (Or.inr (Or.inr (Or.inl rfl))))))) (Fr_setS (Or.inr (Or.inr (Or.inr (Or.inr (Or.inr (Or.inl rfl)))))))
        · rw [hM19, hM18, hM17]; exact h8
        · rw [hM19, hM18, hM17]; exact h9
        · rw [hM19, eR]; rfl
        · rw [eR]
          intro k hk
          have : k = 0 := by simp at hk; omega
          subst this
          have e1 : M19.2 598 0 = 0 := by rw [hM19, hM18, hM17]; rfl
          have e2 : M19.2 599 0 = 0 := by rw [hM19, hM18, hM17]; rfl
          rw [Int.natCast_zero, e1, e2]
          exact ⟨by omega, by show some [] = _; rw [show (0 : Int) + 1 = 1 from rfl, e00], fun h => by omega⟩
      · have eR : tlC g (120 - L.1) (rI r 0 256) = R := by unfold tlC; rw [if_neg hne, hRR]
        rw [eR] at h5
        subst h5
        refine ⟨fun q2 => ⟨fun _ => fin (by omega) M1 h7 h8 h9 h3 h6, fun q3 => by omega⟩, fun q2 => hQ0 (by omega) M1 h7⟩
    · obtain ⟨v, hv1, hv2, hv3⟩ := rI_from (by omega) (h2 (by omega))
      refine ⟨⟨by omega, by omega⟩, fun M22 hM22 => ?_⟩
      have s22 : M22.1 = M1.1 := by rw [hM22]; rfl
      have o22 : ∀ k, k ≠ 598 → M22.2 k = M1.2 k := fun k hk => by rw [hM22, setA_2, if_neg hk]
      have e22 : M22.2 598 = upI (M1.2 598) acc.length v1 := by rw [hM22, setA_2, if_pos rfl]
      have hT22 : tabR M22 r := by unfold tabR; rw [o22 596 (by decide), o22 597 (by decide)]; exact h8
      apply P_X10_lastTogether hT22 hR ⟨h1.1, by omega⟩ hv3 rfl (by rw [o22 579 (by decide), h10]; exact hg) hL (by rw [o22 583 (by decide), h9]; exact hA)
      rw [o22 579 (by decide), h10]
      intro last hl0 hl1 hl2 M24 hF24
      have hcc := tlC_cons (g := g) (full := 120 - L.1) hv2
      rw [← hl1, ← hl2] at hcc
      rw [s22, h3]
      refine ⟨⟨by omega, by omega⟩, fun M25 hM25 => ?_⟩
      have s25 : M25.1 600 = acc.length := by
        rw [hM25]
        show M24.1 600 = _
        rw [hF24.1 600 (by unfold fCr fRp; decide), s22, h3]
      have o25 : ∀ k, k ≠ 599 → M25.2 k = M24.2 k := fun k hk => by rw [hM25, setA_2, if_neg hk]
      have e25 : M25.2 599 = upI (M1.2 599) acc.length last := by
        rw [hM25, setA_2, if_pos rfl, hF24.2 599 (by unfold fCr fRp; decide), o22 599 (by decide)]
      have e25b : M25.2 598 = upI (M1.2 598) acc.length v1 := by
        rw [o25 598 (by decide), hF24.2 598 (by unfold fCr fRp; decide), e22]
      have x25 : M25.2 599 (acc.length : Int) = last := by rw [e25]; exact upI_same _ _ _
      have n25 : ∀ k, k ≠ 598 → k ≠ 599 → ¬ fCr k → M25.2 k = M1.2 k := fun k a b c => by rw [o25 k b, hF24.2 k c, o22 k a]
      have hT25 : tabR M25 r := by
        unfold tabR
        rw [n25 596 (by decide) (by decide) (by unfold fCr fRp; decide), n25 597 (by decide) (by decide) (by unfold fCr fRp; decide)]
        exact h8
      rw [s25, x25]
      refine ⟨⟨by omega, by omega⟩, inR_mk (by omega) (by omega), ?_⟩
      apply P_X10_lowestKey hT25 (by omega)
      intro k hk hke hkn
      refine ⟨inR_mk (by omega) (by omega), fun M27 hM27 => hX _ _ ⟨by omega, hkn, ⟨acc ++ [rI r v1 (last + 1)], ?_, ?_, ?_, ?_⟩, ?_, ?_, ?_, ?_⟩ (by omega)⟩
      · rw [hM27, List.length_append]
        show (acc.length : Int) + 1 = _
        simp
      · rw [List.length_append]; simp; omega
      · rw [← h5, hcc]
        have : rI r (last + 1) 256 = rI r k 256 := by rw [rI_split r (low := last + 1) (mid := k) (high := 256) (by omega) (by omega), hke]; rfl
        rw [this, List.append_assoc]; rfl
      · have e1 : M27.2 598 = upI (M1.2 598) acc.length v1 := by rw [hM27]; exact e25b
        have e2 : M27.2 599 = upI (M1.2 599) acc.length last := by rw [hM27]; exact e25
        rw [e1, e2]
        refine PartsC_snoc h6 (by omega) ?_
        have : rI r v1 (last + 1) = (v1, v) :: rI r (v1 + 1) (last + 1) := by rw [rI_cons r (by omega), one_some hv1]; rfl
        rw [this]
        rfl
      · rw [hM27, hM25]
        refine Fr_trans (Fr_trans (Fr_trans (Fr_trans h7 ?_) (Fr_mono hF24 (fun k h => Or.inr (Or.inl h)))) (Fr_setA (Or.inr (Or.inr (Or.inr (Or.inr (Or.inl rfl))))))) (Fr_setS (Or.inr (Or.inr (Or.inr (Or.inr (Or.inr (Or.inl rfl)))))))
        rw [hM22]
        exact Fr_setA (Or.inr (Or.inr (Or.inr (Or.inl rfl))))
      · rw [hM27]; exact hT25
      · have : M27.2 583 = M25.2 583 := by rw [hM27]; rfl
        rw [this, n25 583 (by decide) (by decide) (by unfold fCr fRp; decide)]; exact h9
      · have : M27.2 579 = M25.2 579 := by rw [hM27]; rfl
        rw [this, n25 579 (by decide) (by decide) (by unfold fCr fRp; decide)]; exact h10
  · refine ⟨by omega, hk2, ⟨[], by rw [n600]; rfl, by simp; omega, ?_, fun k hk => by simp at hk⟩, F33, hT33, n583, n579⟩
    have : rI r 0 256 = rI r k0 256 := by rw [rI_split r (low := 0) (mid := k0) (high := 256) (by omega) (by omega), hk1]; rfl
    rw [this]
    rfl
