theorem P_X6_tellSingles {o : Nat} {frm to size : Int} {y acc : List Int} {Q : Int → zMem → Prop} {M : zMem} (hy : AL (M.2 (64 * o + 4)) 0 y) (hto : 0 ≤ frm ∧ frm ≤ to ∧ to ≤ y.length ∧ y.length ≤ 400) (hacc : AL (M.2 (64 * o)) 0 acc) (hsz : size = acc.length) (hcap : (acc.length : Int) + (to - frm) + ((to - frm) + 127) / 128 ≤ 406) (hQ : ∀ M', Fr (fun k => k = 64 * o) M M' → AL (M'.2 (64 * o)) 0 (acc ++ sing (gi y) frm to) → Q (acc ++ sing (gi y) frm to).length M') : T_X6_tellSingles o frm to size Q M := by
  unfold T_X6_tellSingles T_X6_tellSingles_6
  refine zl2_rule (fun t i M1 => (frm ≤ i ∧ i ≤ to) ∧ Fr (fun k => k = 64 * o) M M1 ∧ AL (M1.2 (64 * o)) 0 (acc ++ sE (gi y) frm to (i - frm).toNat) ∧ t = (acc ++ sE (gi y) frm to (i - frm).toNat).length) (fun t i M1 => (to - i).toNat) ?_ _ _ M ⟨⟨by omega, by omega⟩, Fr_refl M, by rw [Int.sub_self]; simpa [sE] using hacc, by rw [Int.sub_self]; simpa [sE] using hsz⟩
  intro X t i M1 hI ih
  obtain ⟨h1, h2, h3, h4⟩ := hI
  refine ⟨fun hi => ?_, fun hi => ?_⟩
  · have e : i = to := by omega
    rw [e] at h3 h4
    rw [h4]
    exact hQ M1 h2 h3
  · have hlen := h4
    rw [List.length_append, sE_len] at hlen
    have hg : M1.2 (64 * o + 4) i = gi y i := by
      rw [h2.2 (64 * o + 4) (by omega)]
      have := hy i (by omega) (by omega)
      rwa [Int.zero_add] at this
    have e1 : (i + 1 - frm).toNat = (i - frm).toNat + 1 := by omega
    have e2 : frm + (((i - frm).toNat : Nat) : Int) = i := by omega
    have hsn : sE (gi y) frm to (i + 1 - frm).toNat = sE (gi y) frm to (i - frm).toNat ++ em (gi y) frm to i := by rw [e1, sE, e2]
    refine ⟨inR_mk (by omega) (by omega), fun h => by omega, fun _ => ⟨inR_mk (by omega) (by omega), fun hm => ?_, fun hm => ?_⟩⟩
    · rw [tmod_pos (by omega)] at hm
      unfold T_X6_tellSingles_67
      rw [hg]
      refine ⟨⟨by omega, by omega⟩, ⟨by omega, by omega⟩, fun M2 hM2 => ⟨inR_mk (by omega) (by omega), inR_mk (by omega) (by omega), ih _ _ _ ⟨⟨by omega, by omega⟩, Fr_trans h2 (by rw [hM2]; exact Fr_setA rfl), ?_, ?_⟩ (by omega)⟩⟩
      · rw [hM2, setA_2, if_pos rfl, hsn]
        unfold em
        rw [if_neg hm, ← List.append_assoc]
        exact AL_snoc h3 (by omega)
      · rw [hsn]
        unfold em
        rw [if_neg hm, ← List.append_assoc, List.length_append, h4]
        simp
    · rw [tmod_pos (by omega)] at hm
      have h61 : ∀ s2, s2 = min 128 (to - i) → T_X6_tellSingles_61 o frm to t i t s2 X Q M1 := by
        intro s2 hs2
        unfold T_X6_tellSingles_61
        refine ⟨inR_mk (by omega) (by omega), ⟨by omega, by omega⟩, fun M2 hM2 => ⟨inR_mk (by omega) (by omega), ?_⟩⟩
        unfold T_X6_tellSingles_67
        have hg2 : M2.2 (64 * o + 4) i = gi y i := by rw [hM2, setA_2, if_neg (by omega)]; exact hg
        rw [hg2]
        refine ⟨⟨by omega, by omega⟩, ⟨by omega, by omega⟩, fun M3 hM3 => ⟨inR_mk (by omega) (by omega), inR_mk (by omega) (by omega), ih _ _ _ ⟨⟨by omega, by omega⟩, Fr_trans h2 (Fr_trans (M' := M2) (by rw [hM2]; exact Fr_setA rfl) (by rw [hM3]; exact Fr_setA rfl)), ?_, ?_⟩ (by omega)⟩⟩
        · rw [hM3, setA_2, if_pos rfl, hM2, setA_2, if_pos rfl, hsn]
          unfold em
          rw [if_pos hm, ← hs2]
          have := AL_snoc (v := gi y i) (i := t + 1) (AL_snoc (v := s2 - 1) (i := t) h3 (by omega)) (by rw [List.length_append]; simp only [List.length_cons, List.length_nil]; omega)
          simpa using this
        · rw [hsn]
          unfold em
          rw [if_pos hm, ← List.append_assoc, List.length_append, h4]
          simp
          omega
      refine ⟨inR_mk (by omega) (by omega), fun h => h61 _ (by omega), fun h => ⟨inR_mk (by omega) (by omega), h61 _ (by omega)⟩⟩
def fPk (o : Nat) : Nat → Prop := fun k => k = 64 * o ∨ k = 64 * o + 4 ∨ k = 64 * o + 5 ∨ k = 64 * o + 6 ∨ k = 64 * o + 7
theorem P_X6_packRow {o r : Nat} (ho : o = 4 ∨ o = 6) {n fl : Int} {x : List Int} {Q : Int → zMem → Prop} {M : zMem} (hx : AL (M.2 r) 0 x) (hn : n = x.length) (hn4 : n ≤ 400) (hal : n ≤ alen r ∧ 0 < alen r) (hr : ¬ fPk o r) (hb : allB x) (hQ : ∀ M', Fr (fPk o) M M' → AL (M'.2 (64 * o)) 0 (pk x fl) → Q (pk x fl).length M') : T_X6_packRow o r n fl Q M := by
  unfold T_X6_packRow
  have en : min n (min (alen r) 400) = n := by omega
  rw [en]
  refine ⟨hal.2, ?_⟩
  have hr4 : r ≠ 64 * o + 4 := fun e => hr (Or.inr (Or.inl e))
  apply P_X6_filterRow hx hn hn4 hal.1 hr4 hb
  intro M1 hF1 hy1
  have hl6 : alen (64 * o + 6) = 256 := alenv_X6_6 ho
  apply P_J7_fill (by omega) (by omega)
  intro M2 hF2 hm2
  have hyb := flL_b fl x 0 0 hb (by omega)
  have hyl := flL_len fl x 0 0
  obtain ⟨y, hy⟩ : ∃ y, y = flL fl x 0 0 := ⟨_, rfl⟩
  have hR : pk x fl = pkG (gi y) n 0 0 [] := by unfold pk; rw [hy, hn]
  rw [← hy] at hy1 hyb hyl
  apply P_X6_linkSame (y := y) (by rw [hF2.2 (64 * o + 4) (by omega)]; exact hy1) (by omega) hn4 hyb (fun j j0 j1 => hm2 j j0 (by omega))
  intro M3 hF3 hs3
  have hy3 : AL (M3.2 (64 * o + 4)) 0 y := by
    rw [hF3.2 (64 * o + 4) (by omega), hF2.2 (64 * o + 4) (by omega)]; exact hy1
  have hF03 : Fr (fPk o) M M3 := Fr_trans (Fr_mono hF1 (fun k h => Or.inr (Or.inl h))) (Fr_trans (Fr_mono hF2 (fun k h => Or.inr (Or.inr (Or.inr (Or.inl h))))) (Fr_mono hF3 (fun k h => by rcases h with h | h; exact Or.inr (Or.inr (Or.inl h)); exact Or.inr (Or.inr (Or.inr (Or.inl h))))))
  unfold T_X6_packRow_48
  refine zl4_rule (fun sz a fs it M4 => Fr (fun k => k = 64 * o ∨ k = 64 * o + 7) M3 M4 ∧ ∃ acc : List Int, AL (M4.2 (64 * o)) 0 acc ∧ sz = acc.length ∧ (0 ≤ fs ∧ fs ≤ a ∧ a ≤ n) ∧ (acc.length : Int) ≤ fs + fs / 128 ∧ (0 ≤ it ∧ it ≤ a) ∧ pkG (gi y) n a fs acc = pk x fl) (fun sz a fs it M4 => (n - a).toNat) ?_ 0 0 0 0 M3 ⟨Fr_refl M3, [], AL_nil _ _, rfl, ⟨by omega, by omega, by omega⟩, by simp, ⟨by omega, by omega⟩, hR.symm⟩
  intro X sz a fs it M4 hI ih
  obtain ⟨hF4, acc, h1, h2, h3, h4, h5, h6⟩ := hI
  have hy4 : AL (M4.2 (64 * o + 4)) 0 y := by rw [hF4.2 (64 * o + 4) (by omega)]; exact hy3
  have fin : n ≤ a → T_X6_tellSingles o fs n sz (fun y2 M3 => Q y2 M3) M4 := by
    intro hna
    rw [pkG_end hna] at h6
    apply P_X6_tellSingles hy4 ⟨by omega, by omega, by omega, by omega⟩ h1 h2 (by omega)
    intro M5 hF5 hA5
    rw [h6] at hA5 ⊢
    exact hQ M5 (Fr_trans hF03 (Fr_trans (Fr_mono hF4 (fun k h => by rcases h with h | h; exact Or.inl h; exact Or.inr (Or.inr (Or.inr (Or.inr h))))) (Fr_mono hF5 (fun k h => Or.inl h)))) hA5
  refine ⟨fun h => fin (by omega), fun h => ⟨fun h7 => fin h7, fun h7 => ?_⟩⟩
  apply P_X6_longestLike hy4 (by omega) hn4 ⟨by omega, by omega⟩ (fun j j0 j1 => by rw [hF4.2 (64 * o + 5) (by omega)]; exact hs3 j j0 j1)
  · intro hb0 M5 hF5
    refine ⟨fun h => absurd rfl h, fun _ => ⟨inR_mk (by omega) (by omega), ?_⟩⟩
    unfold T_X6_packRow_147
    rw [pkG_no (by omega) hb0] at h6
    exact ⟨inR_mk (by omega) (by omega), ih _ _ _ _ _ ⟨Fr_trans hF4 (Fr_mono hF5 (fun k h => Or.inr h)), acc, by rw [hF5.2 (64 * o) (by omega)]; exact h1, h2, ⟨by omega, by omega, by omega⟩, h4, ⟨by omega, by omega⟩, h6⟩ (by omega)⟩
  · intro l d hbl hl M5 hF5 hd5
    have hbo := bst_ok (g := gi y) (n := n) (i := a) (min 127 a).toNat
    rw [hbl] at hbo
    dsimp only at hbo
    have hbo := hbo.resolve_left (by omega)
    have hle := lk_le (g := gi y) (n := n) (i := a) (d := d) (by omega)
    rw [hbo.2.2] at hle
    rw [pkG_yes (by omega) hbl hl hbo.2.1.1] at h6
    refine ⟨fun _ => ?_, fun h => by omega⟩
    apply P_X6_tellSingles (y := y) (acc := acc) (by rw [hF5.2 (64 * o + 4) (by omega)]; exact hy4) ⟨by omega, by omega, by omega, by omega⟩ (by rw [hF5.2 (64 * o) (by omega)]; exact h1) h2 (by omega)
    intro M6 hF6 hA6
    obtain ⟨acc2, hacc2⟩ : ∃ z, z = acc ++ sing (gi y) fs a := ⟨_, rfl⟩
    rw [← hacc2] at hA6 h6 ⊢
    have hal2 : (acc2.length : Int) ≤ a + a / 128 + 1 := by
      rw [hacc2, List.length_append]
      unfold sing
      rw [sE_len]
      omega
    have hal3 : (acc2.length : Int) + 2 ≤ (a + l) + (a + l) / 128 := by
      rw [hacc2, List.length_append]
      unfold sing
      rw [sE_len]
      omega
    refine ⟨inR_mk (by omega) (by omega), fun h => by omega, fun _ => ⟨inR_mk (by omega) (by omega), ⟨by omega, by omega⟩, fun M7 hM7 => ⟨inR_mk (by omega) (by omega), ⟨by omega, by omega⟩, fun M8 hM8 => ⟨inR_mk (by omega) (by omega), ?_⟩⟩⟩⟩
    have hd7 : M7.1 (64 * o + 7) = d := by rw [hM7, setA_1, hF6.1 (64 * o + 7) (by omega)]; exact hd5
    rw [hd7] at hM8
    unfold T_X6_packRow_136 T_X6_packRow_147
    refine ⟨inR_mk (by omega) (by omega), inR_mk (by omega) (by omega), ih _ _ _ _ _ ⟨Fr_trans hF4 (Fr_trans (Fr_mono hF5 (fun k h => Or.inr h)) (Fr_trans (Fr_mono hF6 (fun k h => Or.inl h)) (Fr_trans (M' := M7) (by rw [hM7]; exact Fr_setA (Or.inl rfl)) (by rw [hM8]; exact Fr_setA (Or.inl rfl))))), acc2 ++ [125 + l, d], ?_, ?_, ⟨by omega, by omega, by omega⟩, ?_, ⟨by omega, by omega⟩, h6⟩ (by omega)⟩
    · rw [hM8, setA_2, if_pos rfl, hM7, setA_2, if_pos rfl]
      have := AL_snoc (v := d) (i := (acc2.length : Int) + 1) (AL_snoc (v := 125 + l) (i := (acc2.length : Int)) hA6 (by omega)) (by rw [List.length_append]; simp only [List.length_cons, List.length_nil]; omega)
      simpa using this
    · rw [List.length_append]; simp only [List.length_cons, List.length_nil]; omega
    · rw [List.length_append]; simp only [List.length_cons, List.length_nil]; omega
def bb (x : List Int) : Nat → Int × Int
  | 0 => ((pk x 0).length, 0)
  | k + 1 => if ((pk x (k + 1)).length : Int) < (bb x k).1 then ((pk x (k + 1)).length, (k : Int) + 1) else bb x k
def bf (x : List Int) : Int := (bb x 3).2
def shape (x : List Int) : List Int := pk x (bf x)
theorem bb_ok (x : List Int) : ∀ k : Nat, (0 ≤ (bb x k).2 ∧ (bb x k).2 ≤ k) ∧ (bb x k).1 = (pk x (bb x k).2).length
  | 0 => ⟨⟨Int.le_refl 0, Int.le_refl 0⟩, rfl⟩
  | k + 1 => by
    have ih := bb_ok x k
    unfold bb
    split
    · exact ⟨⟨by dsimp only; omega, by dsimp only; omega⟩, rfl⟩
    · exact ⟨⟨ih.1.1, by omega⟩, ih.2⟩
theorem bf_ok (x : List Int) : 0 ≤ bf x ∧ bf x ≤ 3 := by
  have := (bb_ok x 3).1
  unfold bf
  omega
def fPb (o : Nat) : Nat → Prop := fun k => fPk o k ∨ k = 64 * o + 3
theorem P_X6_packBest {o r : Nat} (ho : o = 4 ∨ o = 6) {n : Int} {x : List Int} {Q : Int → zMem → Prop} {M : zMem} (hx : AL (M.2 r) 0 x) (hn : n = x.length) (hn4 : n ≤ 400) (hal : n ≤ alen r ∧ 0 < alen r) (hr : ¬ fPk o r) (hb : allB x) (hQ : ∀ M', Fr (fPb o) M M' → AL (M'.2 (64 * o)) 0 (shape x) → M'.1 (64 * o + 3) = bf x → Q (shape x).length M') : T_X6_packBest o r n Q M := by
  have hn3 : ¬ fPk o (64 * o + 3) := by unfold fPk; omega
  unfold T_X6_packBest
  apply P_X6_packRow ho hx hn hn4 hal hr hb
  intro M1 hF1 _ M2 hM2
  unfold T_X6_packBest_16
  refine zl2_rule (fun few f M3 => Fr (fPb o) M M3 ∧ M3.2 r = M.2 r ∧ (1 ≤ f ∧ f ≤ 4) ∧ few = (bb x (f - 1).toNat).1 ∧ M3.1 (64 * o + 3) = (bb x (f - 1).toNat).2) (fun few f M3 => (4 - f).toNat) ?_ _ _ M2 ⟨Fr_trans (Fr_mono hF1 (fun k h => Or.inl h)) (by rw [hM2]; exact Fr_setS (Or.inr rfl)), by rw [hM2, setS_2]; exact hF1.2 r hr, ⟨by omega, by omega⟩, rfl, by rw [hM2, setS_1, if_pos rfl]; rfl⟩
  intro X few f M3 hI ih
  obtain ⟨h1, h2, h3, h4, h5⟩ := hI
  refine ⟨fun h => ?_, fun h => ?_⟩
  · have e : (f - 1).toNat = 3 := by omega
    rw [e] at h5
    rw [h5]
    apply P_X6_packRow ho (by rw [h2]; exact hx) hn hn4 hal hr hb
    intro M4 hF4 hA4
    exact hQ M4 (Fr_trans h1 (Fr_mono hF4 (fun k h => Or.inl h))) hA4 (by rw [hF4.1 _ hn3]; exact h5)
  · apply P_X6_packRow ho (by rw [h2]; exact hx) hn hn4 hal hr hb
    intro M4 hF4 hA4
    have e : (f + 1 - 1).toNat = (f - 1).toNat + 1 := by omega
    have e2 : (((f - 1).toNat : Nat) : Int) + 1 = f := by omega
    refine ⟨fun hle => ?_, fun hle M5 hM5 => ?_⟩
    · unfold T_X6_packBest_47
      refine ⟨inR_mk (by omega) (by omega), ih _ _ _ ⟨Fr_trans h1 (Fr_mono hF4 (fun k h => Or.inl h)), by rw [hF4.2 r hr]; exact h2, ⟨by omega, by omega⟩, ?_, ?_⟩ (by omega)⟩
      · rw [e, bb, e2, if_neg (by omega)]; exact h4
      · rw [e, bb, e2, if_neg (by omega), hF4.1 _ hn3]; exact h5
    · unfold T_X6_packBest_47
      refine ⟨inR_mk (by omega) (by omega), ih _ _ _ ⟨Fr_trans h1 (Fr_trans (Fr_mono hF4 (fun k h => Or.inl h)) (by rw [hM5]; exact Fr_setS (Or.inr rfl))), by rw [hM5, setS_2, hF4.2 r hr]; exact h2, ⟨by omega, by omega⟩, ?_, ?_⟩ (by omega)⟩
      · rw [e, bb, e2, if_pos (by omega)]
      · rw [e, bb, e2, if_pos (by omega), hM5, setS_1, if_pos rfl]
