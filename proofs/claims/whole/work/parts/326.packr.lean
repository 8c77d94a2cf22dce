-- the reference's packing
theorem P_X10_emits {v : Int} {acc : List Int} {Q : zMem → Prop} {M : zMem} (hA : AL (M.2 593) 0 acc) (hl : M.1 594 = acc.length) (hc : acc.length < 2600) (hQ : ∀ M', Fr (fun k => k = 593 ∨ k = 594) M M' → AL (M'.2 593) 0 (acc ++ [v]) → M'.1 594 = (acc ++ [v]).length → Q M') : T_X10_emits v Q M := by
  unfold T_X10_emits
  refine ⟨⟨by omega, by omega⟩, fun M1 hM1 => ?_⟩
  have e : M1.1 594 = acc.length := by rw [hM1, setA_1]; exact hl
  rw [e]
  refine ⟨inR_mk (by omega) (by omega), fun M2 hM2 => hQ M2 ?_ ?_ ?_⟩
  · exact Fr_trans (M' := M1) (by rw [hM1]; exact Fr_setA (Or.inl rfl)) (by rw [hM2]; exact Fr_setS (Or.inr rfl))
  · rw [hM2, setS_2, hM1, setA_2, if_pos rfl]
    exact AL_snoc hA (by omega)
  · rw [hM2, setS_1, if_pos rfl, List.length_append]; simp only [List.length_cons, List.length_nil]; omega
theorem P_X10_emitsSingle {frm to : Int} {y acc : List Int} {Q : zMem → Prop} {M : zMem} (hy : AL (M.2 592) 0 y) (hto : 0 ≤ frm ∧ frm ≤ to ∧ to ≤ y.length ∧ y.length ≤ 400) (hA : AL (M.2 593) 0 acc) (hl : M.1 594 = acc.length) (hc : acc.length < 600) (hQ : ∀ M', Fr (fun k => k = 593 ∨ k = 594) M M' → AL (M'.2 593) 0 (acc ++ sing (gi y) frm to) → M'.1 594 = (acc ++ sing (gi y) frm to).length → Q M') : T_X10_emitsSingle frm to Q M := by
  unfold T_X10_emitsSingle T_X10_emitsSingle_2
  refine zl1_rule (fun a M1 => (frm ≤ a ∧ a ≤ to) ∧ ((a - frm) % 128 = 0 ∨ a = to) ∧ Fr (fun k => k = 593 ∨ k = 594) M M1 ∧ AL (M1.2 593) 0 (acc ++ sE (gi y) frm to (a - frm).toNat) ∧ M1.1 594 = (acc ++ sE (gi y) frm to (a - frm).toNat).length) (fun a M1 => (to - a).toNat) ?_ _ M ⟨⟨by omega, by omega⟩, Or.inl (by rw [Int.sub_self]; rfl), Fr_refl M, by rw [Int.sub_self]; simpa [sE] using hA, by rw [Int.sub_self]; simpa [sE] using hl⟩
  intro X a M1 hI ih
  obtain ⟨h1, h2, h3, h4, h5⟩ := hI
  refine ⟨fun h => ?_, fun h => ?_⟩
  · have e : a = to := by omega
    rw [e] at h4 h5
    exact hQ M1 h3 h4 h5
  · have h2 := h2.resolve_right (by omega)
    have hlen := h5
    rw [List.length_append, sE_len] at hlen
    have h25 : ∀ s, s = min 128 (to - a) → T_X10_emitsSingle_25 to a s X Q M1 := by
      intro s hs
      unfold T_X10_emitsSingle_25
      refine ⟨inR_mk (by omega) (by omega), ?_⟩
      apply P_X10_emits h4 h5 (by rw [List.length_append, sE_len]; omega)
      intro M2 hF2 hA2 hl2
      unfold T_X10_emitsSingle_38
      refine zl1_rule (fun k M3 => (0 ≤ k ∧ k ≤ s) ∧ Fr (fun k => k = 593 ∨ k = 594) M M3 ∧ ((k = 0 ∧ AL (M3.2 593) 0 (acc ++ sE (gi y) frm to (a - frm).toNat ++ [s - 1]) ∧ M3.1 594 = (acc ++ sE (gi y) frm to (a - frm).toNat ++ [s - 1]).length) ∨ (1 ≤ k ∧ AL (M3.2 593) 0 (acc ++ sE (gi y) frm to (a + k - frm).toNat) ∧ M3.1 594 = (acc ++ sE (gi y) frm to (a + k - frm).toNat).length))) (fun k M3 => (s - k).toNat) ?_ 0 M2 ⟨⟨by omega, by omega⟩, Fr_trans h3 hF2, Or.inl ⟨rfl, hA2, hl2⟩⟩
      intro Y k M3 hI3 ih3
      obtain ⟨i1, i2, i3⟩ := hI3
      refine ⟨fun hk => ⟨inR_mk (by omega) (by omega), ?_⟩, fun hk => ⟨inR_mk (by omega) (by omega), ⟨by omega, by omega⟩, ?_⟩⟩
      · have i3 := i3.resolve_left (by omega)
        have e : k = s := by omega
        rw [e] at i3
        refine ih _ _ ⟨⟨by omega, by omega⟩, ?_, i2, i3.2.1, i3.2.2⟩ (by omega)
        omega
      · have hg : M3.2 592 (a + k) = gi y (a + k) := by
          rw [i2.2 592 (by decide)]
          have := hy (a + k) (by omega) (by omega)
          rwa [Int.zero_add] at this
        rw [hg]
        have e1 : (a + (k + 1) - frm).toNat = (a + k - frm).toNat + 1 := by omega
        have e2 : frm + (((a + k - frm).toNat : Nat) : Int) = a + k := by omega
        rcases i3 with ⟨j1, j2, j3⟩ | ⟨j1, j2, j3⟩
        · apply P_X10_emits j2 j3 (by rw [List.length_append, List.length_append, sE_len]; simp only [List.length_cons, List.length_nil]; omega)
          intro M4 hF4 hA4 hl4
          have e3 : acc ++ sE (gi y) frm to (a + (k + 1) - frm).toNat = acc ++ sE (gi y) frm to (a - frm).toNat ++ [s - 1] ++ [gi y (a + k)] := by
            have e0 : a + k - frm = a - frm := by omega
            rw [e1, sE, e2]
            unfold em
            rw [e0, if_pos h2]
            have e4 : to - (a + k) = to - a := by omega
            rw [e4, ← hs]
            simp
          refine ⟨inR_mk (by omega) (by omega), ih3 _ _ ⟨⟨by omega, by omega⟩, Fr_trans i2 hF4, Or.inr ⟨by omega, by rw [e3]; exact hA4, by rw [e3]; exact hl4⟩⟩ (by omega)⟩
        · apply P_X10_emits j2 j3 (by rw [List.length_append, sE_len]; omega)
          intro M4 hF4 hA4 hl4
          have e3 : acc ++ sE (gi y) frm to (a + (k + 1) - frm).toNat = acc ++ sE (gi y) frm to (a + k - frm).toNat ++ [gi y (a + k)] := by
            rw [e1, sE, e2]
            unfold em
            rw [if_neg (by omega)]
            simp
          refine ⟨inR_mk (by omega) (by omega), ih3 _ _ ⟨⟨by omega, by omega⟩, Fr_trans i2 hF4, Or.inr ⟨by omega, by rw [e3]; exact hA4, by rw [e3]; exact hl4⟩⟩ (by omega)⟩
    refine ⟨inR_mk (by omega) (by omega), fun h => h25 _ (by omega), fun h => ⟨inR_mk (by omega) (by omega), h25 _ (by omega)⟩⟩
theorem P_X10_likeFrom {i d n : Int} {y : List Int} {Q : Int → Prop} {M : zMem} (hy : AL (M.2 592) 0 y) (hn : M.1 591 = n) (hl : n = y.length) (hl4 : n ≤ 400) (hi : 0 ≤ i ∧ i < n) (hd : 1 ≤ d ∧ d ≤ i) (hQ : Q (lk (gi y) n i d)) : T_X10_likeFrom i d Q M := by
  unfold T_X10_likeFrom T_X10_likeFrom_2
  have hyj : ∀ j, 0 ≤ j → j < n → M.2 592 j = gi y j := fun j j0 j1 => by
    have := hy j j0 (by omega)
    rwa [Int.zero_add] at this
  refine zp1_rule (fun m => (0 ≤ m ∧ m ≤ 130 ∧ i + m ≤ n) ∧ ∀ j, 0 ≤ j → j < m → i + j < n ∧ gi y (i + j) = gi y (i + j - d)) (fun m => (130 - m).toNat) ?_ 0 ⟨⟨by omega, by omega, by omega⟩, fun j h0 h1 => by omega⟩
  intro X m hI ih
  obtain ⟨h1, h2⟩ := hI
  have fin : (m = 130 ∨ n ≤ i + m ∨ gi y (i + m) ≠ gi y (i + m - d)) → Q m := fun h => by
    have := lk_eq (g := gi y) (n := n) (i := i) (d := d) (m := m) ⟨⟨by omega, by omega⟩, h2, h⟩
    rw [this] at hQ; exact hQ
  rw [hn]
  refine ⟨fun h => fin (by omega), fun h => ⟨inR_mk (by omega) (by omega), fun h3 => fin (by omega), fun h3 => ⟨inR_mk (by omega) (by omega), ⟨by omega, by omega⟩, inR_mk (by omega) (by omega), inR_mk (by omega) (by omega), ⟨by omega, by omega⟩, ?_⟩⟩⟩
  rw [hyj _ (by omega) (by omega), hyj _ (by omega) (by omega)]
  refine ⟨fun h4 => fin (Or.inr (Or.inr h4)), fun h4 => ⟨inR_mk (by omega) (by omega), ih _ ⟨⟨by omega, by omega, by omega⟩, fun j j0 j1 => ?_⟩ (by omega)⟩⟩
  by_cases q : j = m
  · rw [q]; exact ⟨by omega, h4⟩
  · exact h2 j j0 (by omega)
theorem P_X10_filteredAt {i fl : Int} {x : List Int} {Q : Int → Prop} {M : zMem} (hx : AL (M.2 590) 0 x) (hl : x.length ≤ 400) (hi : 0 ≤ i ∧ i < x.length) (hb : allB x) (hQ : Q (gi (flL fl x 0 0) i)) : T_X10_filteredAt i fl Q M := by
  have hxj : ∀ j : Int, 0 ≤ j → j < x.length → M.2 590 j = gi x j := fun j j0 j1 => by
    have := hx j j0 (by omega)
    rwa [Int.zero_add] at this
  have hbi := allB_gi hb i
  have hg := flL_gi fl x 0 0 i (by omega) (by omega)
  have h34 : ∀ a b, a = (if 1 ≤ i then gi x (i - 1) else 0) → b = (if 2 ≤ i then gi x (i - 2) else if i = 1 then 0 else 0) → T_X10_filteredAt_34 i fl a b Q M := by
    intro a b ha hb2
    have ha' : 0 ≤ a ∧ a < 256 := by
      rw [ha]; split
      · exact allB_gi hb _
      · omega
    have hb' : 0 ≤ b ∧ b < 256 := by
      rw [hb2]; split
      · exact allB_gi hb _
      · split <;> omega
    rw [← ha, ← hb2] at hg
    unfold T_X10_filteredAt_34
    rw [hxj i (by omega) (by omega)]
    rw [hg] at hQ
    unfold fv at hQ
    refine ⟨fun n1 => ⟨fun n2 => ⟨fun n3 => ⟨⟨by omega, by omega⟩, ?_⟩, fun n3 => ⟨⟨by omega, by omega⟩, inR_mk (by omega) (by omega), ?_⟩⟩, fun n2 => ⟨⟨by omega, by omega⟩, ?_⟩⟩, fun n1 => ⟨⟨by omega, by omega⟩, inR_mk (by omega) (by omega), ?_⟩⟩
    · rw [if_neg n1, if_neg n2, if_neg n3] at hQ; exact hQ
    · rw [if_neg n1, if_neg n2, if_pos n3] at hQ; rw [zand_255]; exact hQ
    · rw [if_neg n1, if_pos n2] at hQ; exact hQ
    · rw [if_pos n1] at hQ; rw [zand_255]; exact hQ
  have h16 : ∀ a, a = (if 1 ≤ i then gi x (i - 1) else 0) → T_X10_filteredAt_16 i fl a Q M := by
    intro a ha
    unfold T_X10_filteredAt_16
    refine ⟨fun h => h34 _ _ ha ?_, fun h => ⟨inR_mk (by omega) (by omega), ⟨by omega, by omega⟩, h34 _ _ ha ?_⟩⟩
    · rw [if_neg (by omega)]; split <;> rfl
    · rw [if_pos (by omega), hxj _ (by omega) (by omega)]
  unfold T_X10_filteredAt
  refine ⟨fun h => h16 _ (by rw [if_neg (by omega)]), fun h => ⟨inR_mk (by omega) (by omega), ⟨by omega, by omega⟩, h16 _ ?_⟩⟩
  rw [if_pos (by omega), hxj _ (by omega) (by omega)]
def fRp : Nat → Prop := fun k => k = 592 ∨ k = 593 ∨ k = 594
theorem P_X10_packs {fl : Int} {x : List Int} {Q : Int → zMem → Prop} {M : zMem} (hx : AL (M.2 590) 0 x) (hn : M.1 591 = x.length) (hl : x.length ≤ 400) (hb : allB x) (hQ : ∀ M', Fr fRp M M' → AL (M'.2 593) 0 (pk x fl) → M'.1 594 = (pk x fl).length → Q (pk x fl).length M') : T_X10_packs fl Q M := by
  obtain ⟨n, hnn⟩ : ∃ n : Int, n = x.length := ⟨_, rfl⟩
  obtain ⟨y, hy⟩ : ∃ y, y = flL fl x 0 0 := ⟨_, rfl⟩
  have hyl : n = y.length := by rw [hy, flL_len]; exact hnn
  have hR : pk x fl = pkG (gi y) n 0 0 [] := by unfold pk; rw [hy, hnn]
  unfold T_X10_packs T_X10_packs_2
  refine zl1_rule (fun i M1 => (0 ≤ i ∧ i ≤ n) ∧ Fr (fun k => k = 592) M M1 ∧ ∀ j, 0 ≤ j → j < i → M1.2 592 j = gi y j) (fun i M1 => (n - i).toNat) ?_ 0 M ⟨⟨by omega, by omega⟩, Fr_refl M, fun j h0 h1 => by omega⟩
  intro X i M1 hI ih
  obtain ⟨h1, h2, h3⟩ := hI
  have hM591 : M1.1 591 = n := by rw [h2.1 591 (by decide), hn]; exact hnn.symm
  rw [hM591]
  refine ⟨fun hi M2 hM2 => ?_, fun hi => ?_⟩
  · have hy2 : AL (M2.2 592) 0 y := fun j j0 j1 => by
      rw [Int.zero_add, hM2, setS_2]
      exact h3 j j0 (by omega)
    have hF02 : Fr fRp M M2 := Fr_trans (Fr_mono h2 (fun k h => Or.inl h)) (by rw [hM2]; exact Fr_setS (Or.inr (Or.inr rfl)))
    unfold T_X10_packs_37
    refine zl2_rule (fun s a M3 => Fr (fun k => k = 593 ∨ k = 594) M2 M3 ∧ ∃ acc : List Int, AL (M3.2 593) 0 acc ∧ M3.1 594 = acc.length ∧ (0 ≤ s ∧ s ≤ a ∧ a ≤ n) ∧ (acc.length : Int) ≤ s + s / 128 ∧ pkG (gi y) n a s acc = pk x fl) (fun s a M3 => (n - a).toNat) ?_ 0 0 M2 ⟨Fr_refl M2, [], AL_nil _ _, by rw [hM2, setS_1, if_pos rfl]; rfl, ⟨by omega, by omega, by omega⟩, by simp, hR.symm⟩
    intro X3 s a M3 hI3 ih3
    obtain ⟨hF3, acc, g1, g2, g3, g4, g5⟩ := hI3
    have hy3 : AL (M3.2 592) 0 y := by rw [hF3.2 592 (by decide)]; exact hy2
    have hn3 : M3.1 591 = n := by rw [hF3.1 591 (by decide), hM2, setS_1, if_neg (by decide)]; exact hM591
    rw [hn3]
    refine ⟨fun hna => ?_, fun hna => ?_⟩
    · apply P_X10_emitsSingle hy3 ⟨by omega, by omega, by omega, by omega⟩ g1 g2 (by omega)
      intro M4 hF4 hA4 hl4
      rw [pkG_end hna] at g5
      rw [g5] at hA4 hl4
      rw [hl4]
      exact hQ M4 (Fr_trans hF02 (Fr_trans (Fr_mono hF3 (fun k h => Or.inr h)) (Fr_mono hF4 (fun k h => Or.inr h)))) hA4 hl4
    · unfold T_X10_packs_54
      refine zp3_rule (fun l b d => (1 ≤ d ∧ d - 1 ≤ 127 ∧ d - 1 ≤ a) ∧ bst (gi y) n a (d - 1).toNat = (l, b)) (fun l b d => (128 - d).toNat) ?_ 2 0 1 ⟨⟨by omega, by omega, by omega⟩, rfl⟩
      intro X4 l b d hI4 ih4
      obtain ⟨k1, k2⟩ := hI4
      have hbo := bst_ok (g := gi y) (n := n) (i := a) (d - 1).toNat
      rw [k2] at hbo
      dsimp only at hbo
      have h100 : (127 < d ∨ a < d) → T_X10_packs_100 s a l b X3 Q M3 := by
        intro hd
        have e : (d - 1).toNat = (min 127 a).toNat := by omega
        rw [e] at k2
        unfold T_X10_packs_100
        refine ⟨fun hb0 => ?_, fun hb0 => ?_⟩
        · have hbo := hbo.resolve_left (fun h => hb0 h.2)
          have hle := lk_le (g := gi y) (n := n) (i := a) (d := b) (by omega)
          rw [hbo.2.2] at hle
          rw [pkG_yes (by omega) k2 hbo.1 hbo.2.1.1] at g5
          apply P_X10_emitsSingle hy3 ⟨by omega, by omega, by omega, by omega⟩ g1 g2 (by omega)
          intro M4 hF4 hA4 hl4
          obtain ⟨acc2, hacc2⟩ : ∃ z, z = acc ++ sing (gi y) s a := ⟨_, rfl⟩
          rw [← hacc2] at hA4 hl4 g5
          have hal3 : (acc2.length : Int) + 2 ≤ (a + l) + (a + l) / 128 := by
            rw [hacc2, List.length_append]
            unfold sing
            rw [sE_len]
            omega
          refine ⟨inR_mk (by omega) (by omega), ?_⟩
          apply P_X10_emits hA4 hl4 (by omega)
          intro M5 hF5 hA5 hl5
          apply P_X10_emits hA5 hl5 (by rw [List.length_append]; simp only [List.length_cons, List.length_nil]; omega)
          intro M6 hF6 hA6 hl6
          have e9 : acc2 ++ [125 + l] ++ [b] = acc2 ++ [125 + l, b] := by simp
          rw [e9] at hA6 hl6
          refine ⟨inR_mk (by omega) (by omega), ih3 _ _ _ ⟨Fr_trans hF3 (Fr_trans hF4 (Fr_trans hF5 hF6)), acc2 ++ [125 + l, b], hA6, hl6, ⟨by omega, by omega, by omega⟩, ?_, g5⟩ (by omega)⟩
          rw [List.length_append]; simp only [List.length_cons, List.length_nil]; omega
        · have hbo := hbo.resolve_right (fun h => by omega)
          rw [pkG_no (by omega) (by rw [k2]; exact hbo)] at g5
          exact ⟨inR_mk (by omega) (by omega), ih3 _ _ _ ⟨hF3, acc, g1, g2, ⟨by omega, by omega, by omega⟩, g4, g5⟩ (by omega)⟩
      refine ⟨fun h => h100 (Or.inl h), fun h => ⟨fun h9 => h100 (Or.inr h9), fun h9 => ?_⟩⟩
      apply P_X10_likeFrom hy3 hn3 hyl (by omega) ⟨by omega, by omega⟩ ⟨by omega, by omega⟩
      have e : (d + 1 - 1).toNat = (d - 1).toNat + 1 := by omega
      have e2 : (((d - 1).toNat : Nat) : Int) + 1 = d := by omega
      refine ⟨fun hlt => ?_, fun hlt => ?_⟩
      · unfold T_X10_packs_94
        refine ⟨inR_mk (by omega) (by omega), ih4 _ _ _ ⟨⟨by omega, by omega, by omega⟩, ?_⟩ (by omega)⟩
        rw [e, bst, e2, k2, if_neg (by dsimp only; omega)]
      · unfold T_X10_packs_94
        refine ⟨inR_mk (by omega) (by omega), ih4 _ _ _ ⟨⟨by omega, by omega, by omega⟩, ?_⟩ (by omega)⟩
        rw [e, bst, e2, k2, if_pos (by dsimp only; omega)]
  · apply P_X10_filteredAt (by rw [h2.2 590 (by decide)]; exact hx) hl ⟨by omega, by omega⟩ hb
    rw [← hy]
    refine ⟨⟨by omega, by omega⟩, fun M2 hM2 => ⟨inR_mk (by omega) (by omega), ih _ _ ⟨⟨by omega, by omega⟩, Fr_trans h2 (by rw [hM2]; exact Fr_setA rfl), fun j j0 j1 => ?_⟩ (by omega)⟩⟩
    rw [hM2, setA_2, if_pos rfl]
    by_cases q : j = i
    · rw [q, upI_same]
    · rw [upI_ne q]; exact h3 j j0 (by omega)
theorem P_X10_shapeOf {x : List Int} {Q : Int → zMem → Prop} {M : zMem} (hx : AL (M.2 590) 0 x) (hn : M.1 591 = x.length) (hl : x.length ≤ 400) (hb : allB x) (hQ : ∀ M', Fr fRp M M' → AL (M'.2 593) 0 (shape x) → M'.1 594 = (shape x).length → Q (bf x) M') : T_X10_shapeOf Q M := by
  unfold T_X10_shapeOf
  apply P_X10_packs hx hn hl hb
  intro M1 hF1 _ _
  unfold T_X10_shapeOf_10
  have n0 : ¬ fRp 590 := by unfold fRp; decide
  have n1 : ¬ fRp 591 := by unfold fRp; decide
  refine zl3_rule (fun b few f M3 => Fr fRp M M3 ∧ (1 ≤ f ∧ f ≤ 4) ∧ bb x (f - 1).toNat = (few, b)) (fun b few f M3 => (4 - f).toNat) ?_ _ _ _ M1 ⟨hF1, ⟨by omega, by omega⟩, rfl⟩
  intro X b few f M3 hI ih
  obtain ⟨h1, h2, h3⟩ := hI
  refine ⟨fun h => ?_, fun h => ?_⟩
  · have e : (f - 1).toNat = 3 := by omega
    rw [e] at h3
    have hbf : b = bf x := by unfold bf; rw [h3]
    rw [hbf]
    apply P_X10_packs (by rw [h1.2 _ n0]; exact hx) (by rw [h1.1 _ n1]; exact hn) hl hb
    intro M4 hF4 hA4 hl4
    exact hQ M4 (Fr_trans h1 hF4) hA4 hl4
  · apply P_X10_packs (by rw [h1.2 _ n0]; exact hx) (by rw [h1.1 _ n1]; exact hn) hl hb
    intro M4 hF4 hA4 hl4
    have e : (f + 1 - 1).toNat = (f - 1).toNat + 1 := by omega
    have e2 : (((f - 1).toNat : Nat) : Int) + 1 = f := by omega
    unfold T_X10_shapeOf_36
    refine ⟨fun hlt => ⟨inR_mk (by omega) (by omega), ih _ _ _ _ ⟨Fr_trans h1 hF4, ⟨by omega, by omega⟩, ?_⟩ (by omega)⟩, fun hlt => ⟨inR_mk (by omega) (by omega), ih _ _ _ _ ⟨Fr_trans h1 hF4, ⟨by omega, by omega⟩, ?_⟩ (by omega)⟩⟩
    · rw [e, bb, e2, h3, if_pos hlt]
    · rw [e, bb, e2, h3, if_neg hlt]
