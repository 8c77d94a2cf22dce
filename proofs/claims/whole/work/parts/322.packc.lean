theorem P_X6_filterRow {o r : Nat} {n fl : Int} {x : List Int} {Q : zMem → Prop} {M : zMem} (hx : AL (M.2 r) 0 x) (hn : n = x.length) (hn4 : n ≤ 400) (hal : n ≤ alen r) (hr : r ≠ 64 * o + 4) (hb : allB x) (hQ : ∀ M', Fr (fun k => k = 64 * o + 4) M M' → AL (M'.2 (64 * o + 4)) 0 (flL fl x 0 0) → Q M') : T_X6_filterRow o r n fl Q M := by
  unfold T_X6_filterRow T_X6_filterRow_3
  refine zl1_rule (fun i M1 => (0 ≤ i ∧ i ≤ n) ∧ Fr (fun k => k = 64 * o + 4) M M1 ∧ ∀ j, 0 ≤ j → j < i → M1.2 (64 * o + 4) j = gi (flL fl x 0 0) j) (fun i M1 => (n - i).toNat) ?_ 0 M ⟨⟨by omega, by omega⟩, Fr_refl M, fun j h0 h1 => by omega⟩
  intro X i M1 hI ih
  obtain ⟨h1, h2, h3⟩ := hI
  have hM1 : ∀ j, 0 ≤ j → j < n → M1.2 r j = gi x j := fun j j0 j1 => by
    rw [h2.2 r hr]
    have := hx j j0 (by omega)
    rwa [Int.zero_add] at this
  refine ⟨fun hi => hQ M1 h2 (fun j j0 j1 => ?_), fun hi => ?_⟩
  · rw [Int.zero_add]
    rw [flL_len] at j1
    exact h3 j j0 (by omega)
  · have h93 : ∀ v, zand v 255 = gi (flL fl x 0 0) i → T_X6_filterRow_93 o r n fl i v X Q M1 := by
      intro v hv
      unfold T_X6_filterRow_93
      refine ⟨⟨by omega, by omega⟩, fun M2 hM2 => ⟨inR_mk (by omega) (by omega), ih _ _ ⟨⟨by omega, by omega⟩, Fr_trans h2 (by rw [hM2]; exact Fr_setA rfl), fun j j0 j1 => ?_⟩ (by omega)⟩⟩
      rw [hM2, setA_2, if_pos rfl]
      by_cases q : j = i
      · rw [q, upI_same]; exact hv
      · rw [upI_ne q]; exact h3 j j0 (by omega)
    have hbi := allB_gi hb i
    have hg := flL_gi fl x 0 0 i (by omega) (by omega)
    have h43 : ∀ a b, a = (if 1 ≤ i then gi x (i - 1) else 0) → b = (if 2 ≤ i then gi x (i - 2) else if i = 1 then 0 else 0) → T_X6_filterRow_43 o r n fl i a b X Q M1 := by
      intro a b ha hb2
      have ha' : 0 ≤ a ∧ a < 256 := by
        rw [ha]; split
        · exact allB_gi hb _
        · omega
      have hb' : 0 ≤ b ∧ b < 256 := by
        rw [hb2]; split
        · exact allB_gi hb _
        · split <;> omega
      rw [← ha, ← hb2] at hg
      have hxb := zxor_b hbi ha'
      unfold T_X6_filterRow_43
      rw [hM1 i (by omega) (by omega)]
      refine ⟨⟨by omega, by omega⟩, fun n1 => ⟨fun n2 => ⟨fun n3 => h93 _ ?_, fun n3 => ⟨inR_mk (by omega) (by omega), h93 _ ?_⟩⟩, fun n2 => h93 _ ?_⟩, fun n1 => ⟨inR_mk (by omega) (by omega), h93 _ ?_⟩⟩
      · rw [hg, zand_255]; unfold fv; rw [if_neg n1, if_neg n2, if_neg n3]; omega
      · rw [hg, zand_255]; unfold fv; rw [if_neg n1, if_neg n2, if_pos n3]
      · rw [hg, zand_255]; unfold fv; rw [if_neg n1, if_pos n2]; omega
      · rw [hg, zand_255]; unfold fv; rw [if_pos n1]
    have h25 : ∀ a, a = (if 1 ≤ i then gi x (i - 1) else 0) → T_X6_filterRow_25 o r n fl i a X Q M1 := by
      intro a ha
      unfold T_X6_filterRow_25
      refine ⟨fun h => h43 _ _ ha ?_, fun h => ⟨inR_mk (by omega) (by omega), ⟨by omega, by omega⟩, h43 _ _ ha ?_⟩⟩
      · rw [if_neg (by omega)]; split <;> rfl
      · rw [if_pos (by omega), hM1 _ (by omega) (by omega)]
    refine ⟨fun h => h25 _ (by rw [if_neg (by omega)]), fun h => ⟨inR_mk (by omega) (by omega), ⟨by omega, by omega⟩, h25 _ ?_⟩⟩
    rw [if_pos (by omega), hM1 _ (by omega) (by omega)]
theorem P_J7_fill {r : Nat} {v : Int} {Q : zMem → Prop} {M : zMem} (hl : 0 < alen r) (hl2 : alen r ≤ 30000) (hQ : ∀ M', Fr (fun k => k = r) M M' → (∀ j, 0 ≤ j → j < alen r → M'.2 r j = v) → Q M') : T_J7_fill_53178 r v Q M := by
  unfold T_J7_fill_53178 T_J7_fill_53178_5
  refine ⟨hl, zl1_rule (fun i M1 => (0 ≤ i ∧ i ≤ alen r) ∧ Fr (fun k => k = r) M M1 ∧ ∀ j, 0 ≤ j → j < i → M1.2 r j = v) (fun i M1 => (alen r - i).toNat) ?_ 0 M ⟨⟨by omega, by omega⟩, Fr_refl M, fun j h0 h1 => by omega⟩⟩
  intro X i M1 hI ih
  obtain ⟨h1, h2, h3⟩ := hI
  refine ⟨fun hi => hQ M1 h2 (fun j j0 j1 => h3 j j0 (by omega)), fun hi => ⟨⟨by omega, by omega⟩, fun M2 hM2 => ⟨inR_mk (by omega) (by omega), ih _ _ ⟨⟨by omega, by omega⟩, Fr_trans h2 (by rw [hM2]; exact Fr_setA rfl), fun j j0 j1 => ?_⟩ (by omega)⟩⟩⟩
  rw [hM2, setA_2, if_pos rfl]
  by_cases q : j = i
  · rw [q, upI_same]
  · rw [upI_ne q]; exact h3 j j0 (by omega)
def lst (g : Int → Int) (b : Int) : Nat → Int
  | 0 => -1
  | n + 1 => if g n = b then n else lst g b n
theorem lst_spec (g : Int → Int) (b : Int) : ∀ n : Nat, (lst g b n = -1 ∧ ∀ j : Int, 0 ≤ j → j < n → g j ≠ b) ∨ ((0 ≤ lst g b n ∧ lst g b n < n) ∧ g (lst g b n) = b ∧ ∀ j : Int, lst g b n < j → j < n → g j ≠ b)
  | 0 => Or.inl ⟨rfl, fun j h0 h1 => by omega⟩
  | n + 1 => by
    unfold lst
    by_cases q : g n = b
    · rw [if_pos q]
      exact Or.inr ⟨⟨by omega, by omega⟩, q, fun j h0 h1 => by omega⟩
    · rw [if_neg q]
      rcases lst_spec g b n with ⟨h1, h2⟩ | ⟨h1, h2, h3⟩
      · refine Or.inl ⟨h1, fun j j0 j1 => ?_⟩
        by_cases e : j = n
        · rw [e]; exact q
        · exact h2 j j0 (by omega)
      · refine Or.inr ⟨⟨h1.1, by omega⟩, h2, fun j j0 j1 => ?_⟩
        by_cases e : j = n
        · rw [e]; exact q
        · exact h3 j j0 (by omega)
theorem P_X6_linkSame {o : Nat} {n : Int} {y : List Int} {Q : zMem → Prop} {M : zMem} (hy : AL (M.2 (64 * o + 4)) 0 y) (hn : n = y.length) (hn4 : n ≤ 400) (hb : allB y) (hm : ∀ j, 0 ≤ j → j < 256 → M.2 (64 * o + 6) j = -1) (hQ : ∀ M', Fr (fun k => k = 64 * o + 5 ∨ k = 64 * o + 6) M M' → (∀ j, 0 ≤ j → j < n → M'.2 (64 * o + 5) j = lst (gi y) (gi y j) j.toNat) → Q M') : T_X6_linkSame o n Q M := by
  unfold T_X6_linkSame T_X6_linkSame_2
  refine zl1_rule (fun i M1 => (0 ≤ i ∧ i ≤ n) ∧ Fr (fun k => k = 64 * o + 5 ∨ k = 64 * o + 6) M M1 ∧ (∀ j, 0 ≤ j → j < i → M1.2 (64 * o + 5) j = lst (gi y) (gi y j) j.toNat) ∧ ∀ b, 0 ≤ b → b < 256 → M1.2 (64 * o + 6) b = lst (gi y) b i.toNat) (fun i M1 => (n - i).toNat) ?_ 0 M ⟨⟨by omega, by omega⟩, Fr_refl M, fun j h0 h1 => by omega, hm⟩
  intro X i M1 hI ih
  obtain ⟨h1, h2, h3, h4⟩ := hI
  refine ⟨fun hi => hQ M1 h2 (fun j j0 j1 => h3 j j0 (by omega)), fun hi => ?_⟩
  have hg : M1.2 (64 * o + 4) i = gi y i := by
    rw [h2.2 (64 * o + 4) (by omega)]
    have := hy i (by omega) (by omega)
    rwa [Int.zero_add] at this
  have hbi := allB_gi hb i
  rw [hg]
  refine ⟨⟨by omega, by omega⟩, hbi, ⟨by omega, by omega⟩, fun M2 hM2 => ?_⟩
  have hg2 : M2.2 (64 * o + 4) i = gi y i := by rw [hM2, setA_2, if_neg (by omega)]; exact hg
  rw [hg2]
  refine ⟨⟨by omega, by omega⟩, hbi, fun M3 hM3 => ⟨inR_mk (by omega) (by omega), ih _ _ ⟨⟨by omega, by omega⟩, Fr_trans h2 (Fr_trans (M' := M2) (by rw [hM2]; exact Fr_setA (Or.inl rfl)) (by rw [hM3]; exact Fr_setA (Or.inr rfl))), fun j j0 j1 => ?_, fun b b0 b1 => ?_⟩ (by omega)⟩⟩
  · rw [hM3, setA_2, if_neg (by omega), hM2, setA_2, if_pos rfl]
    by_cases q : j = i
    · rw [q, upI_same, h4 _ hbi.1 hbi.2]
    · rw [upI_ne q]; exact h3 j j0 (by omega)
  · rw [hM3, setA_2, if_pos rfl]
    have e : (i + 1).toNat = i.toNat + 1 := by omega
    have ei : ((i.toNat : Nat) : Int) = i := by omega
    rw [e]
    unfold lst
    rw [ei]
    by_cases q : b = gi y i
    · rw [q, upI_same, if_pos rfl]
    · rw [upI_ne q, if_neg (fun h => q h.symm), hM2, setA_2, if_neg (by omega)]
      exact h4 b b0 b1
theorem P_X6_longestLike {o : Nat} {a n : Int} {y : List Int} {Q : Int → zMem → Prop} {M : zMem} (hy : AL (M.2 (64 * o + 4)) 0 y) (hn : n = y.length) (hn4 : n ≤ 400) (ha : 0 ≤ a ∧ a < n) (hs : ∀ j, 0 ≤ j → j < n → M.2 (64 * o + 5) j = lst (gi y) (gi y j) j.toNat) (hQ0 : ((bst (gi y) n a (min 127 a).toNat).1 = 2 ∧ (bst (gi y) n a (min 127 a).toNat).2 = 0) → ∀ M', Fr (fun k => k = 64 * o + 7) M M' → Q 0 M') (hQ1 : ∀ l d, bst (gi y) n a (min 127 a).toNat = (l, d) → 3 ≤ l → ∀ M', Fr (fun k => k = 64 * o + 7) M M' → M'.1 (64 * o + 7) = d → Q l M') : T_X6_longestLike o a n Q M := by
  have h18 : ∀ most, most = min (n - a) 130 → T_X6_longestLike_18 o a most Q M := by
    intro most hmost
    unfold T_X6_longestLike_18
    refine ⟨⟨by omega, by omega⟩, ?_⟩
    rw [hs a (by omega) (by omega)]
    unfold T_X6_longestLike_33
    refine zl3_rule (fun l f t M1 => Fr (fun k => k = 64 * o + 7) M M1 ∧ 0 ≤ t ∧ (-1 ≤ f ∧ f < a) ∧ t + 1 ≤ a - f ∧ (f = -1 ∨ gi y f = gi y a) ∧ ∃ d0 : Nat, (d0 : Int) < a - f ∧ (d0 : Int) ≤ 127 ∧ (d0 : Int) ≤ a ∧ (∀ j, f < j → j < a - d0 → gi y j ≠ gi y a) ∧ (bst (gi y) n a d0).1 = l ∧ (3 ≤ l → M1.1 (64 * o + 7) = (bst (gi y) n a d0).2)) (fun l f t M1 => (f + 1).toNat) ?_ _ _ _ _ ?_
    · intro X l f t M1 hI ih
      obtain ⟨h1, h2, h3, h4, h5, d0, g1, g2, g3, g4, g5, g6⟩ := hI
      have hbo := bst_ok (g := gi y) (n := n) (i := a) d0
      have fin : (bst (gi y) n a (min 127 a).toNat = bst (gi y) n a d0) → T_X6_longestLike_131 o l Q M1 := by
        intro he
        unfold T_X6_longestLike_131
        refine ⟨fun q => ?_, fun q => ?_⟩
        · refine hQ1 l (bst (gi y) n a d0).2 (by rw [he, ← g5]) q M1 h1 (g6 q)
        · refine hQ0 ?_ M1 h1
          rw [he]
          rcases hbo with q2 | q2
          · exact q2
          · omega
      have nom : ∀ d : Nat, d0 < d → (d : Int) < a - f → lk (gi y) n a d = 0 := fun d q1 q2 => lk_0 (fun e => g4 (a - d) (by omega) (by omega) e.symm)
      have fin2 : 127 < a - f ∨ f < 0 → T_X6_longestLike_131 o l Q M1 := by
        intro hq
        refine fin (bst_skip (by omega) (fun d q1 q2 => ?_))
        rw [nom d q1 (by omega)]
        rcases hbo with q | q <;> omega
      refine ⟨fun q => fin2 (by omega), fun q => ⟨fun q2 => fin2 (Or.inr q2), fun q2 => ⟨inR_mk (by omega) (by omega), fun q3 => fin2 (Or.inl q3), fun q3 => ⟨fun q4 => ?_, fun q4 => ?_⟩⟩⟩⟩
      · refine fin (bst_skip (by omega) (fun d _ _ => ?_))
        have := lk_le (g := gi y) (n := n) (i := a) (d := d) (by omega)
        omega
      · have hf : gi y f = gi y a := h5.resolve_left (by omega)
        have hfy : ∀ j, 0 ≤ j → j < n → M1.2 (64 * o + 4) j = gi y j := fun j j0 j1 => by
          rw [h1.2 (64 * o + 4) (by omega)]
          have := hy j j0 (by omega)
          rwa [Int.zero_add] at this
        have e1 : bst (gi y) n a (a - f - 1).toNat = bst (gi y) n a d0 := bst_skip (by omega) (fun d q5 q6 => by
          rw [nom d q5 (by omega)]
          rcases hbo with q | q <;> omega)
        have h97 : ∀ m, IsLk (gi y) n a (a - f) m → T_X6_longestLike_97 o a most l f t m X Q M1 := by
          intro m hm
          have hlk := lk_eq hm
          have e2 : (a - f).toNat = (a - f - 1).toNat + 1 := by omega
          have e3 : (((a - f - 1).toNat : Nat) : Int) + 1 = a - f := by omega
          have hb2 : bst (gi y) n a (a - f).toNat = if m ≤ (bst (gi y) n a d0).1 then bst (gi y) n a d0 else (m, a - f) := by
            rw [e2, bst, e1, e3, hlk]
          have hsf : M1.2 (64 * o + 5) f = lst (gi y) (gi y f) f.toNat := by
            rw [h1.2 (64 * o + 5) (by omega)]
            exact hs f (by omega) (by omega)
          have hls := lst_spec (gi y) (gi y f) f.toNat
          have step : ∀ l2 M2, Fr (fun k => k = 64 * o + 7) M M2 → (M2.2 = M1.2) → (bst (gi y) n a (a - f).toNat).1 = l2 → (3 ≤ l2 → M2.1 (64 * o + 7) = (bst (gi y) n a (a - f).toNat).2) → T_X6_longestLike_116 o a most l2 f t X Q M2 := by
            intro l2 M2 hF2 hM2 hl2 hd2
            unfold T_X6_longestLike_116
            rw [hM2, hsf]
            refine ⟨⟨by omega, by omega⟩, inR_mk (by omega) (by omega), ih _ _ _ _ ⟨hF2, by omega, ?_, ?_, ?_, (a - f).toNat, ?_, by omega, by omega, ?_, hl2, hd2⟩ ?_⟩
            · rcases hls with ⟨w1, w2⟩ | ⟨w1, w2, w3⟩ <;> omega
            · rcases hls with ⟨w1, w2⟩ | ⟨w1, w2, w3⟩ <;> omega
            · rcases hls with ⟨w1, w2⟩ | ⟨w1, w2, w3⟩
              · exact Or.inl w1
              · exact Or.inr (by rw [w2, hf])
            · rcases hls with ⟨w1, w2⟩ | ⟨w1, w2, w3⟩ <;> omega
            · intro j j0 j1
              rw [← hf]
              rcases hls with ⟨w1, w2⟩ | ⟨w1, w2, w3⟩
              · exact w2 j (by omega) (by omega)
              · exact w3 j (by omega) (by omega)
            · rcases hls with ⟨w1, w2⟩ | ⟨w1, w2, w3⟩ <;> omega
          unfold T_X6_longestLike_97
          refine ⟨fun hle => ?_, fun hle => ⟨inR_mk (by omega) (by omega), fun M3 hM3 => ?_⟩⟩
          · rw [if_pos (by omega)] at hb2
            exact step l M1 h1 rfl (by rw [hb2]; exact g5) (by rw [hb2]; exact g6)
          · rw [if_neg (by omega)] at hb2
            exact step m M3 (Fr_trans h1 (by rw [hM3]; exact Fr_setS rfl)) (by rw [hM3]; rfl) (by rw [hb2]) (fun _ => by rw [hb2, hM3, setS_1, if_pos rfl])
        unfold T_X6_longestLike_63
        refine zp1_rule (fun m => (1 ≤ m ∧ m ≤ most) ∧ ∀ j, 0 ≤ j → j < m → gi y (a + j) = gi y (f + j)) (fun m => (most - m).toNat) ?_ 1 ⟨⟨by omega, by omega⟩, fun j j0 j1 => ?_⟩
        · intro Y m hI2 ih2
          obtain ⟨i1, i2⟩ := hI2
          have pre : ∀ j, 0 ≤ j → j < m → a + j < n ∧ gi y (a + j) = gi y (a + j - (a - f)) := fun j j0 j1 => ⟨by omega, by
            have e : a + j - (a - f) = f + j := by omega
            rw [e]; exact i2 j j0 j1⟩
          refine ⟨fun q5 => h97 m ⟨⟨by omega, by omega⟩, pre, by omega⟩, fun q5 => ⟨inR_mk (by omega) (by omega), ⟨by omega, by omega⟩, inR_mk (by omega) (by omega), ⟨by omega, by omega⟩, ?_⟩⟩
          rw [hfy _ (by omega) (by omega), hfy _ (by omega) (by omega)]
          refine ⟨fun q6 => h97 m ⟨⟨by omega, by omega⟩, pre, Or.inr (Or.inr ?_)⟩, fun q6 => ⟨inR_mk (by omega) (by omega), ih2 _ ⟨⟨by omega, by omega⟩, fun j j0 j1 => ?_⟩ (by omega)⟩⟩
          · have e : a + m - (a - f) = f + m := by omega
            rw [e]; exact q6
          · by_cases q7 : j = m
            · rw [q7]; exact q6
            · exact i2 j j0 (by omega)
        · have : j = 0 := by omega
          rw [this, Int.add_zero, Int.add_zero]
          exact hf.symm
    · have hls := lst_spec (gi y) (gi y a) a.toNat
      refine ⟨Fr_refl M, by omega, ?_, ?_, ?_, 0, ?_, by omega, by omega, ?_, rfl, fun h => by omega⟩
      · rcases hls with ⟨w1, w2⟩ | ⟨w1, w2, w3⟩ <;> omega
      · rcases hls with ⟨w1, w2⟩ | ⟨w1, w2, w3⟩ <;> omega
      · rcases hls with ⟨w1, w2⟩ | ⟨w1, w2, w3⟩
        · exact Or.inl w1
        · exact Or.inr w2
      · rcases hls with ⟨w1, w2⟩ | ⟨w1, w2, w3⟩ <;> omega
      · intro j j0 j1
        rcases hls with ⟨w1, w2⟩ | ⟨w1, w2, w3⟩
        · exact w2 j (by omega) (by omega)
        · exact w3 j (by omega) (by omega)
  unfold T_X6_longestLike
  exact ⟨inR_mk (by omega) (by omega), fun h => h18 _ (by omega), fun h => ⟨inR_mk (by omega) (by omega), h18 _ (by omega)⟩⟩
