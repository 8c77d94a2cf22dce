theorem tk_snoc (a : Int → Int) : ∀ (n : Nat) (off : Int), tk a off (n + 1) = tk a off n ++ [a (off + n)]
  | 0, off => by simp [tk]
  | n + 1, off => by
    rw [tk, tk_snoc a n (off + 1)]
    have e : off + 1 + (n : Int) = off + ((n + 1 : Nat) : Int) := by omega
    rw [e]
    rfl
def cpyL (out : List Int) (d : Int) : Nat → List Int
  | 0 => out
  | k + 1 => cpyL out d k ++ [gi (cpyL out d k) ((cpyL out d k).length - d)]
theorem cpyL_len (out : List Int) (d : Int) : ∀ k : Nat, (cpyL out d k).length = out.length + k
  | 0 => rfl
  | k + 1 => by rw [cpyL, List.length_append, cpyL_len out d k]; simp only [List.length_cons, List.length_nil]; omega
theorem cpyL_b {out : List Int} {d : Int} (h : allB out) : ∀ k : Nat, allB (cpyL out d k)
  | 0 => h
  | k + 1 => by
    have ih := cpyL_b (d := d) h k
    rw [cpyL, allB_app, allB_cons]
    exact ⟨ih, allB_gi ih _, allB_nil⟩
theorem tk_b {y : List Int} (h : allB y) : ∀ (n : Nat) (a : Int), allB (tk (gi y) a n)
  | 0, _ => allB_nil
  | n + 1, a => by rw [tk, allB_cons]; exact ⟨allB_gi h _, tk_b h n _⟩
def unp (y : List Int) (a : Int) (out : List Int) : Int ⊕ List Int :=
  if h : 0 ≤ a ∧ a < y.length then
    (if h1 : gi y a < 128 then
      (if 400 < out.length + (gi y a + 1) then .inl a
      else if y.length < a + 1 + (gi y a + 1) then .inl y.length
      else if h2 : 0 ≤ gi y a then unp y (a + 2 + gi y a) (out ++ tk (gi y) (a + 1) (gi y a + 1).toNat) else .inl a)
    else
      (if 400 < out.length + (gi y a - 125) then .inl a
      else if a + 1 = y.length then .inl y.length
      else if gi y (a + 1) = 0 ∨ 127 < gi y (a + 1) ∨ (out.length : Int) < gi y (a + 1) then .inl (a + 1)
      else unp y (a + 2) (cpyL out (gi y (a + 1)) (gi y a - 125).toNat)))
  else .inr out
termination_by (y.length - a).toNat
decreasing_by
  · omega
  · omega
theorem unp_end {y out : List Int} {a : Int} (h : (y.length : Int) ≤ a) : unp y a out = .inr out := by rw [unp, dif_neg (by omega)]
theorem unp_s0 {y out : List Int} {a : Int} (h : 0 ≤ a ∧ a < y.length) (h1 : gi y a < 128) (h2 : 400 < out.length + (gi y a + 1)) : unp y a out = .inl a := by rw [unp, dif_pos h, dif_pos h1, if_pos h2]
theorem unp_s1 {y out : List Int} {a : Int} (h : 0 ≤ a ∧ a < y.length) (h1 : gi y a < 128) (h2 : ¬ 400 < out.length + (gi y a + 1)) (h3 : y.length < a + 1 + (gi y a + 1)) : unp y a out = .inl y.length := by rw [unp, dif_pos h, dif_pos h1, if_neg h2, if_pos h3]
theorem unp_s {y out : List Int} {a : Int} (h : 0 ≤ a ∧ a < y.length) (h1 : gi y a < 128) (h2 : ¬ 400 < out.length + (gi y a + 1)) (h3 : ¬ y.length < a + 1 + (gi y a + 1)) (h4 : 0 ≤ gi y a) : unp y a out = unp y (a + 2 + gi y a) (out ++ tk (gi y) (a + 1) (gi y a + 1).toNat) := by rw [unp, dif_pos h, dif_pos h1, if_neg h2, if_neg h3, dif_pos h4]
theorem unp_l0 {y out : List Int} {a : Int} (h : 0 ≤ a ∧ a < y.length) (h1 : ¬ gi y a < 128) (h2 : 400 < out.length + (gi y a - 125)) : unp y a out = .inl a := by rw [unp, dif_pos h, dif_neg h1, if_pos h2]
theorem unp_l1 {y out : List Int} {a : Int} (h : 0 ≤ a ∧ a < y.length) (h1 : ¬ gi y a < 128) (h2 : ¬ 400 < out.length + (gi y a - 125)) (h3 : a + 1 = y.length) : unp y a out = .inl y.length := by rw [unp, dif_pos h, dif_neg h1, if_neg h2, if_pos h3]
theorem unp_l2 {y out : List Int} {a : Int} (h : 0 ≤ a ∧ a < y.length) (h1 : ¬ gi y a < 128) (h2 : ¬ 400 < out.length + (gi y a - 125)) (h3 : ¬ a + 1 = y.length) (h4 : gi y (a + 1) = 0 ∨ 127 < gi y (a + 1) ∨ (out.length : Int) < gi y (a + 1)) : unp y a out = .inl (a + 1) := by rw [unp, dif_pos h, dif_neg h1, if_neg h2, if_neg h3, if_pos h4]
theorem unp_l {y out : List Int} {a : Int} (h : 0 ≤ a ∧ a < y.length) (h1 : ¬ gi y a < 128) (h2 : ¬ 400 < out.length + (gi y a - 125)) (h3 : ¬ a + 1 = y.length) (h4 : ¬ (gi y (a + 1) = 0 ∨ 127 < gi y (a + 1) ∨ (out.length : Int) < gi y (a + 1))) : unp y a out = unp y (a + 2) (cpyL out (gi y (a + 1)) (gi y a - 125).toNat) := by rw [unp, dif_pos h, dif_neg h1, if_neg h2, if_neg h3, if_neg h4]
def fUn (o : Nat) : Nat → Prop := fun k => k = 64 * o + 1 ∨ k = 64 * o + 2
theorem P_X6_turnBack {o : Nat} {n fl : Int} {x : List Int} {Q : zMem → Prop} {M : zMem} (hx : AL (M.2 (64 * o + 1)) 0 x) (hn : n = x.length) (hn4 : n ≤ 400) (hb : allB x) (hQ : ∀ M', Fr (fun k => k = 64 * o + 1) M M' → AL (M'.2 (64 * o + 1)) 0 (tbL fl x 0 0) → Q M') : T_X6_turnBack o n fl Q M := by
  unfold T_X6_turnBack T_X6_turnBack_2
  have hzb := tbL_b fl x 0 0 hb (by omega)
  refine zl1_rule (fun i M1 => (0 ≤ i ∧ i ≤ n) ∧ Fr (fun k => k = 64 * o + 1) M M1 ∧ (∀ j, 0 ≤ j → j < i → M1.2 (64 * o + 1) j = gi (tbL fl x 0 0) j) ∧ ∀ j, i ≤ j → j < n → M1.2 (64 * o + 1) j = gi x j) (fun i M1 => (n - i).toNat) ?_ 0 M ⟨⟨by omega, by omega⟩, Fr_refl M, fun j h0 h1 => by omega, fun j h0 h1 => by have := hx j h0 (by omega); rwa [Int.zero_add] at this⟩
  intro X i M1 hI ih
  obtain ⟨h1, h2, h3, h4⟩ := hI
  refine ⟨fun hi => hQ M1 h2 (fun j j0 j1 => ?_), fun hi => ?_⟩
  · rw [Int.zero_add]
    rw [tbL_len] at j1
    exact h3 j j0 (by omega)
  · have h95 : ∀ v, zand v 255 = gi (tbL fl x 0 0) i → T_X6_turnBack_95 o n fl i v X Q M1 := by
      intro v hv
      unfold T_X6_turnBack_95
      refine ⟨⟨by omega, by omega⟩, fun M2 hM2 => ⟨inR_mk (by omega) (by omega), ih _ _ ⟨⟨by omega, by omega⟩, Fr_trans h2 (by rw [hM2]; exact Fr_setA rfl), fun j j0 j1 => ?_, fun j j0 j1 => ?_⟩ (by omega)⟩⟩
      · rw [hM2, setA_2, if_pos rfl]
        by_cases q : j = i
        · rw [q, upI_same]; exact hv
        · rw [upI_ne q]; exact h3 j j0 (by omega)
      · rw [hM2, setA_2, if_pos rfl, upI_ne (by omega)]
        exact h4 j (by omega) j1
    have hbi := allB_gi hb i
    have hg := tbL_gi fl x 0 0 i (by omega) (by omega)
    have h43 : ∀ a b, a = (if 1 ≤ i then gi (tbL fl x 0 0) (i - 1) else 0) → b = (if 2 ≤ i then gi (tbL fl x 0 0) (i - 2) else if i = 1 then 0 else 0) → T_X6_turnBack_43 o n fl i a b X Q M1 := by
      intro a b ha hb2
      have ha' : 0 ≤ a ∧ a < 256 := by
        rw [ha]; split
        · exact allB_gi hzb _
        · omega
      have hb' : 0 ≤ b ∧ b < 256 := by
        rw [hb2]; split
        · exact allB_gi hzb _
        · split <;> omega
      rw [← ha, ← hb2] at hg
      have hxb := zxor_b hbi ha'
      unfold T_X6_turnBack_43
      rw [h4 i (by omega) (by omega)]
      refine ⟨⟨by omega, by omega⟩, fun n1 => ⟨fun n2 => ⟨fun n3 => h95 _ ?_, fun n3 => ⟨inR_mk (by omega) (by omega), h95 _ ?_⟩⟩, fun n2 => h95 _ ?_⟩, fun n1 => ⟨inR_mk (by omega) (by omega), h95 _ ?_⟩⟩
      · rw [hg, zand_255]; unfold tv; rw [if_neg n1, if_neg n2, if_neg n3]; omega
      · rw [hg, zand_255]; unfold tv; rw [if_neg n1, if_neg n2, if_pos n3]
      · rw [hg, zand_255]; unfold tv; rw [if_neg n1, if_pos n2]; omega
      · rw [hg, zand_255]; unfold tv; rw [if_pos n1]
    have h24 : ∀ a, a = (if 1 ≤ i then gi (tbL fl x 0 0) (i - 1) else 0) → T_X6_turnBack_24 o n fl i a X Q M1 := by
      intro a ha
      unfold T_X6_turnBack_24
      refine ⟨fun h => h43 _ _ ha ?_, fun h => ⟨inR_mk (by omega) (by omega), ⟨by omega, by omega⟩, h43 _ _ ha ?_⟩⟩
      · rw [if_neg (by omega)]; split <;> rfl
      · rw [if_pos (by omega), h3 _ (by omega) (by omega)]
    refine ⟨fun h => h24 _ (by rw [if_neg (by omega)]), fun h => ⟨inR_mk (by omega) (by omega), ⟨by omega, by omega⟩, h24 _ ?_⟩⟩
    rw [if_pos (by omega), h3 _ (by omega) (by omega)]
theorem P_X6_unpackLike_79 {o : Nat} {n d : Int} {out : List Int} {Q : Int → zMem → Prop} {M : zMem} (hA : AL (M.2 (64 * o + 1)) 0 out) (hn : 0 ≤ n ∧ out.length + n ≤ 400) (hd : 1 ≤ d ∧ d ≤ out.length) (hQ : ∀ M', Fr (fun k => k = 64 * o + 1) M M' → AL (M'.2 (64 * o + 1)) 0 (cpyL out d n.toNat) → Q (out.length + n) M') : T_X6_unpackLike_79 o out.length n d Q out.length M := by
  unfold T_X6_unpackLike_79
  refine zl1_rule (fun i M1 => ((out.length : Int) ≤ i ∧ i ≤ out.length + n) ∧ Fr (fun k => k = 64 * o + 1) M M1 ∧ AL (M1.2 (64 * o + 1)) 0 (cpyL out d (i - out.length).toNat)) (fun i M1 => (out.length + n - i).toNat) ?_ _ M ⟨⟨by omega, by omega⟩, Fr_refl M, by rw [Int.sub_self]; exact hA⟩
  intro X i M1 hI ih
  obtain ⟨h1, h2, h3⟩ := hI
  refine ⟨inR_mk (by omega) (by omega), fun h => ⟨inR_mk (by omega) (by omega), ?_⟩, fun h => ⟨inR_mk (by omega) (by omega), ⟨by omega, by omega⟩, ⟨by omega, by omega⟩, fun M2 hM2 => ⟨inR_mk (by omega) (by omega), ih _ _ ⟨⟨by omega, by omega⟩, Fr_trans h2 (by rw [hM2]; exact Fr_setA rfl), ?_⟩ (by omega)⟩⟩⟩
  · have e : (i - (out.length : Int)).toNat = n.toNat := by omega
    rw [e] at h3
    exact hQ M1 h2 h3
  · have e : (i + 1 - (out.length : Int)).toNat = (i - (out.length : Int)).toNat + 1 := by omega
    have hl := cpyL_len out d (i - (out.length : Int)).toNat
    have hv : M1.2 (64 * o + 1) (i - d) = gi (cpyL out d (i - (out.length : Int)).toNat) ((cpyL out d (i - (out.length : Int)).toNat).length - d) := by
      have := h3 (i - d) (by omega) (by omega)
      rw [Int.zero_add] at this
      rw [this]
      congr 1
      omega
    rw [hM2, setA_2, if_pos rfl, hv, e, cpyL]
    exact AL_snoc h3 (by omega)
theorem P_X6_unpackRow {o r : Nat} {frm n fl : Int} {y : List Int} {Q : Int → zMem → Prop} {M : zMem} (hy : AL (M.2 r) frm y) (hn : n = y.length) (hn4 : n ≤ 400) (hf : 0 ≤ frm ∧ frm + n ≤ alen r ∧ 0 < alen r ∧ alen r ≤ 30000) (hr : r ≠ 64 * o + 1) (hb : allB y) (hQ1 : ∀ out, unp y 0 [] = .inr out → allB out → out.length ≤ 400 → ∀ M', Fr (fUn o) M M' → AL (M'.2 (64 * o + 1)) 0 (tbL fl out 0 0) → M'.1 (64 * o + 2) = -1 → Q out.length M') (hQ0 : ∀ fp, unp y 0 [] = .inl fp → ∀ M', Fr (fUn o) M M' → M'.1 (64 * o + 2) = fp → Q (-1) M') : T_X6_unpackRow o r frm n fl Q M := by
  unfold T_X6_unpackRow
  intro M0 hM0
  have el : min (alen r) (frm + n) = frm + n := by omega
  rw [el]
  refine ⟨hf.2.2.1, inR_mk (by omega) (by omega), ?_⟩
  have hF0 : Fr (fUn o) M M0 := by rw [hM0]; exact Fr_setS (Or.inr rfl)
  unfold T_X6_unpackRow_24
  refine zl3_rule (fun p sz it M1 => Fr (fUn o) M M1 ∧ M1.2 r = M.2 r ∧ 0 ≤ it ∧ ((M1.1 (64 * o + 2) = -1 ∧ ∃ (out : List Int) (a : Int), p = frm + a ∧ (0 ≤ a ∧ a ≤ n) ∧ sz = out.length ∧ AL (M1.2 (64 * o + 1)) 0 out ∧ out.length ≤ 400 ∧ allB out ∧ unp y a out = unp y 0 [] ∧ it ≤ a) ∨ (∃ fp, (0 ≤ fp ∧ fp ≤ 400) ∧ unp y 0 [] = .inl fp ∧ M1.1 (64 * o + 2) = frm + fp))) (fun p sz it M1 => (400 - it).toNat) ?_ _ _ _ M0 ⟨hF0, by rw [hM0, setS_2], by omega, Or.inl ⟨by rw [hM0, setS_1, if_pos rfl], [], 0, by omega, ⟨by omega, by omega⟩, rfl, AL_nil _ _, by simp, allB_nil, rfl, by omega⟩⟩
  intro X p sz it M1 hI ih
  obtain ⟨h1, h2, h3, h4⟩ := hI
  have h113 : (M1.1 (64 * o + 2) = -1 → n ≤ p - frm) → T_X6_unpackRow_113 o frm fl sz Q M1 := by
    intro hend
    unfold T_X6_unpackRow_113
    rcases h4 with ⟨g1, out, a, g2, g3, g4, g5, g6, g7, g8, g9⟩ | ⟨fp, g1, g2, g3⟩
    · refine ⟨fun _ => ?_, fun h => absurd g1 h⟩
      have hu : unp y 0 [] = .inr out := by rw [← g8]; exact unp_end (by have := hend g1; omega)
      apply P_X6_turnBack g5 g4 (by omega) g7
      intro M2 hF2 hA2
      rw [g4]
      exact hQ1 out hu g7 g6 M2 (Fr_trans h1 (Fr_mono hF2 (fun k h => Or.inl h))) hA2 (by rw [hF2.1 (64 * o + 2) (by omega)]; exact g1)
    · refine ⟨fun h => by omega, fun h => ?_⟩
      rw [g3]
      refine ⟨inR_mk (by omega) (by omega), fun M2 hM2 => hQ0 fp g2 M2 (Fr_trans h1 (by rw [hM2]; exact Fr_setS (Or.inr rfl))) ?_⟩
      rw [hM2, setS_1, if_pos rfl]
      omega
  refine ⟨fun h => h113 (fun hg => ?_), fun h => ⟨fun h5 => h113 (fun hg => ?_), fun h5 => ⟨fun h6 => h113 (fun hg => by omega), fun h6 => ⟨fun h7 => h113 (fun hg => absurd hg h7), fun h7 => ?_⟩⟩⟩⟩
  · rcases h4 with ⟨g1, out, a, g2, g3, g4, g5, g6, g7, g8, g9⟩ | ⟨fp, g1, g2, g3⟩ <;> omega
  · rcases h4 with ⟨g1, out, a, g2, g3, g4, g5, g6, g7, g8, g9⟩ | ⟨fp, g1, g2, g3⟩ <;> omega
  · have h4 := h4.resolve_right (fun ⟨fp, g1, g2, g3⟩ => by omega)
    obtain ⟨g1, out, a, g2, g3, g4, g5, g6, g7, g8, g9⟩ := h4
    have hyj : ∀ j, 0 ≤ j → j < n → M1.2 r (frm + j) = gi y j := fun j j0 j1 => by rw [h2]; exact hy j j0 (by omega)
    have hya := hyj a (by omega) (by omega)
    rw [← g2] at hya
    have hba := allB_gi hb a
    rw [hya]
    have ha : 0 ≤ a ∧ a < y.length := ⟨by omega, by omega⟩
    have flaw : ∀ (fp p2 sz2 : Int) (M2 : zMem), (0 ≤ fp ∧ fp ≤ 400) → unp y a out = .inl fp → M2 = setS M1 (64 * o + 2) (frm + fp) → X p2 sz2 (it + 1) M2 := by
      intro fp p2 sz2 M2 hfp hu hM2
      refine ih _ _ _ _ ⟨Fr_trans h1 (by rw [hM2]; exact Fr_setS (Or.inr rfl)), by rw [hM2, setS_2]; exact h2, by omega, Or.inr ⟨fp, hfp, by rw [← g8]; exact hu, by rw [hM2, setS_1, if_pos rfl]⟩⟩ (by omega)
    refine ⟨⟨by omega, by omega⟩, fun h8 => ?_, fun h8 => ?_⟩
    · unfold T_X6_unpackLike
      rw [hya, g4]
      have h43 : ∀ s, (a + 1 = y.length → s = 0) → (a + 1 < y.length → s = gi y (a + 1)) → (¬ 400 < out.length + (gi y a - 125)) → T_X6_unpackLike_43 o p out.length (gi y a - 125) s (fun y9 M10 => inR (p + 2) ∧ T_X6_unpackRow_107 o r frm fl (frm + n) (p + 2) y9 it X Q M10) M1 := by
        intro s hs0 hs1 hcap
        have hs1' : a + 1 < y.length → 0 ≤ gi y (a + 1) ∧ gi y (a + 1) < 256 := fun _ => allB_gi hb _
        unfold T_X6_unpackLike_43 T_X6_unpackRow_107
        have bad : (s < 1 ∨ 127 < s ∨ (out.length : Int) < s) → ∀ M4 : zMem, M4 = setS M1 (64 * o + 2) (p + 1) → inR (p + 2) ∧ inR (it + 1) ∧ X (p + 2) out.length (it + 1) M4 := by
          intro hbad M4 hM4
          refine ⟨inR_mk (by omega) (by omega), inR_mk (by omega) (by omega), ?_⟩
          by_cases q : a + 1 = y.length
          · exact flaw y.length _ _ M4 (by omega) (unp_l1 ha (by omega) hcap q) (by rw [hM4]; congr 1; omega)
          · exact flaw (a + 1) _ _ M4 (by omega) (unp_l2 ha (by omega) hcap q (by have := hs1 (by omega); have := hs1' (by omega); omega)) (by rw [hM4]; congr 1; omega)
        refine ⟨fun q => ⟨inR_mk (by omega) (by omega), bad (Or.inl q)⟩, fun q => ⟨fun q2 => ⟨inR_mk (by omega) (by omega), bad (Or.inr (Or.inl q2))⟩, fun q2 => ⟨fun q3 => ?_, fun q3 => ⟨inR_mk (by omega) (by omega), bad (Or.inr (Or.inr (by omega)))⟩⟩⟩⟩
        have hne : ¬ a + 1 = y.length := fun e => by have := hs0 e; omega
        have hse := hs1 (by omega)
        apply P_X6_unpackLike_79 g5 ⟨by omega, by omega⟩ ⟨by omega, q3⟩
        intro M5 hF5 hA5
        refine ⟨inR_mk (by omega) (by omega), inR_mk (by omega) (by omega), ih _ _ _ _ ⟨Fr_trans h1 (Fr_mono hF5 (fun k h => Or.inl h)), by rw [hF5.2 r hr]; exact h2, by omega, Or.inl ⟨by rw [hF5.1 (64 * o + 2) (by omega)]; exact g1, cpyL out s (gi y a - 125).toNat, a + 2, by omega, ⟨by omega, by omega⟩, ?_, hA5, ?_, cpyL_b g7 _, ?_, by omega⟩⟩ (by omega)⟩
        · rw [cpyL_len]; omega
        · rw [cpyL_len]; omega
        · rw [← g8, unp_l ha (by omega) hcap hne (by omega), ← hse]
      refine ⟨⟨by omega, by omega⟩, inR_mk (by omega) (by omega), inR_mk (by omega) (by omega), fun q => ⟨inR_mk (by omega) (by omega), fun q2 => h43 0 (fun _ => rfl) (fun e => by omega) (by omega), fun q2 => ⟨inR_mk (by omega) (by omega), ⟨by omega, by omega⟩, ?_⟩⟩, fun q M2 hM2 => ?_⟩
      · have e : p + 1 = frm + (a + 1) := by omega
        have := hyj (a + 1) (by omega) (by omega)
        rw [← e] at this
        rw [this]
        exact h43 _ (fun e => by omega) (fun _ => rfl) (by omega)
      · unfold T_X6_unpackRow_107
        exact ⟨inR_mk (by omega) (by omega), inR_mk (by omega) (by omega), flaw a _ _ M2 (by omega) (unp_l0 ha (by omega) (by omega)) (by rw [hM2]; congr 1)⟩
    · unfold T_X6_unpackSingles
      rw [hya, g4]
      refine ⟨⟨by omega, by omega⟩, inR_mk (by omega) (by omega), fun q => by omega, fun q => ⟨inR_mk (by omega) (by omega), fun q2 => ⟨inR_mk (by omega) (by omega), inR_mk (by omega) (by omega), fun q3 => ⟨inR_mk (by omega) (by omega), ⟨⟨by omega, by omega, by omega⟩, by omega, by omega, by omega, by omega⟩, fun M5 hM5 => ⟨inR_mk (by omega) (by omega), ?_⟩⟩, fun q3 M6 hM6 => ?_⟩, fun q2 M7 hM7 => ?_⟩⟩
      · unfold T_X6_unpackRow_107
        refine ⟨inR_mk (by omega) (by omega), inR_mk (by omega) (by omega), inR_mk (by omega) (by omega), ih _ _ _ _ ⟨Fr_trans h1 (by rw [hM5]; exact Fr_putA (Or.inl rfl)), by rw [hM5, putA_2, if_neg hr]; exact h2, by omega, Or.inl ⟨by rw [hM5, putA_1]; exact g1, out ++ tk (gi y) (a + 1) (gi y a + 1).toNat, a + 2 + gi y a, by omega, ⟨by omega, by omega⟩, ?_, ?_, ?_, allB_app.mpr ⟨g7, tk_b hb _ _⟩, ?_, by omega⟩⟩ (by omega)⟩
        · rw [List.length_append, tk_len]; omega
        · rw [hM5, putA_2, if_pos rfl, AL_app]
          refine ⟨AL_congr g5 (fun j j0 j1 => ?_), fun j j0 j1 => ?_⟩
          · unfold cpA; rw [if_neg (by omega)]
          · rw [tk_len] at j1
            rw [tk_gi _ _ _ j0 (by omega)]
            unfold cpA
            have e9 : p + 1 + (0 + (out.length : Int) + j - out.length) = frm + (a + 1 + j) := by omega
            rw [if_pos (by omega), e9]
            exact hyj (a + 1 + j) (by omega) (by omega)
        · rw [List.length_append, tk_len]; omega
        · rw [← g8, unp_s ha (by omega) (by omega) (by omega) (by omega)]
      · unfold T_X6_unpackRow_107
        exact ⟨inR_mk (by omega) (by omega), inR_mk (by omega) (by omega), inR_mk (by omega) (by omega), flaw y.length _ _ M6 (by omega) (unp_s1 ha (by omega) (by omega) (by omega)) (by rw [hM6]; congr 1; omega)⟩
      · unfold T_X6_unpackRow_107
        exact ⟨inR_mk (by omega) (by omega), inR_mk (by omega) (by omega), inR_mk (by omega) (by omega), flaw a _ _ M7 (by omega) (unp_s0 ha (by omega) (by omega)) (by rw [hM7]; congr 1)⟩
