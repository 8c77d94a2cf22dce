-- the reference's unpacking
theorem P_X10_comesOut {v : Int} {acc : List Int} {Q : zMem → Prop} {M : zMem} (hA : AL (M.2 590) 0 acc) (hl : M.1 591 = acc.length) (hc : acc.length < 2600) (hQ : ∀ M', Fr (fun k => k = 590 ∨ k = 591) M M' → AL (M'.2 590) 0 (acc ++ [v]) → M'.1 591 = (acc ++ [v]).length → Q M') : T_X10_comesOut v Q M := by
  unfold T_X10_comesOut
  refine ⟨⟨by omega, by omega⟩, fun M1 hM1 => ?_⟩
  have e : M1.1 591 = acc.length := by rw [hM1, setA_1]; exact hl
  rw [e]
  refine ⟨inR_mk (by omega) (by omega), fun M2 hM2 => hQ M2 ?_ ?_ ?_⟩
  · exact Fr_trans (M' := M1) (by rw [hM1]; exact Fr_setA (Or.inl rfl)) (by rw [hM2]; exact Fr_setS (Or.inr rfl))
  · rw [hM2, setS_2, hM1, setA_2, if_pos rfl]
    exact AL_snoc hA (by omega)
  · rw [hM2, setS_1, if_pos rfl, List.length_append]; simp only [List.length_cons, List.length_nil]; omega
def fUr : Nat → Prop := fun k => k = 590 ∨ k = 591 ∨ k = 595
theorem P_X10_unpacks_218 {fl : Int} {x : List Int} {Q : Int → zMem → Prop} {M : zMem} (hx : AL (M.2 590) 0 x) (hn : M.1 591 = x.length) (hl : x.length ≤ 400) (hb : allB x) (hQ : ∀ M', Fr fUr M M' → AL (M'.2 590) 0 (tbL fl x 0 0) → M'.1 591 = x.length → M'.1 595 = -1 → Q 1 M') : T_X10_unpacks_218 fl Q 0 M := by
  unfold T_X10_unpacks_218
  have hzb := tbL_b fl x 0 0 hb (by omega)
  obtain ⟨n, hnn⟩ : ∃ n : Int, n = x.length := ⟨_, rfl⟩
  refine zl1_rule (fun i M1 => (0 ≤ i ∧ i ≤ n) ∧ Fr (fun k => k = 590) M M1 ∧ (∀ j, 0 ≤ j → j < i → M1.2 590 j = gi (tbL fl x 0 0) j) ∧ ∀ j, i ≤ j → j < n → M1.2 590 j = gi x j) (fun i M1 => (n - i).toNat) ?_ 0 M ⟨⟨by omega, by omega⟩, Fr_refl M, fun j h0 h1 => by omega, fun j h0 h1 => by have := hx j h0 (by omega); rwa [Int.zero_add] at this⟩
  intro X i M1 hI ih
  obtain ⟨h1, h2, h3, h4⟩ := hI
  have hn1 : M1.1 591 = n := by rw [h2.1 591 (by decide), hn]; exact hnn.symm
  rw [hn1]
  refine ⟨fun hi M2 hM2 => hQ M2 (Fr_trans (Fr_mono h2 (fun k h => Or.inl h)) (by rw [hM2]; exact Fr_setS (Or.inr (Or.inr rfl)))) (fun j j0 j1 => ?_) ?_ ?_, fun hi => ?_⟩
  · rw [Int.zero_add, hM2, setS_2]
    rw [tbL_len] at j1
    exact h3 j j0 (by omega)
  · rw [hM2, setS_1, if_neg (by decide), hn1, hnn]
  · rw [hM2, setS_1, if_pos rfl]
  · have hbi := allB_gi hb i
    have hg := tbL_gi fl x 0 0 i (by omega) (by omega)
    have stp : ∀ v M2, v = gi (tbL fl x 0 0) i → M2 = setA M1 590 i v → inR (i + 1) ∧ X (i + 1) M2 := by
      intro v M2 hv hM2
      refine ⟨inR_mk (by omega) (by omega), ih _ _ ⟨⟨by omega, by omega⟩, Fr_trans h2 (by rw [hM2]; exact Fr_setA rfl), fun j j0 j1 => ?_, fun j j0 j1 => ?_⟩ (by omega)⟩
      · rw [hM2, setA_2, if_pos rfl]
        by_cases q : j = i
        · rw [q, upI_same]; exact hv
        · rw [upI_ne q]; exact h3 j j0 (by omega)
      · rw [hM2, setA_2, if_pos rfl, upI_ne (by omega)]
        exact h4 j (by omega) j1
    have h266 : ∀ a b, a = (if 1 ≤ i then gi (tbL fl x 0 0) (i - 1) else 0) → b = (if 2 ≤ i then gi (tbL fl x 0 0) (i - 2) else if i = 1 then 0 else 0) → T_X10_unpacks_266 fl i a b X Q M1 := by
      intro a b ha hb2
      have ha' : 0 ≤ a ∧ a < 256 := by
        rw [ha]; split
        · exact allB_gi hzb _
        · omega
      have hb' : 0 ≤ b ∧ b < 256 := by
        rw [hb2]; split
        · exact allB_gi hzb _
        · split <;> omega
      rw [← ha, ← hb2] at hg
      unfold tv at hg
      unfold T_X10_unpacks_266 T_X10_unpacks_295 T_X10_unpacks_318 T_X10_unpacks_345
      rw [h4 i (by omega) (by omega)]
      refine ⟨fun n1 => ⟨fun n2 => ⟨fun n3 => ?_, fun n3 => ⟨⟨by omega, by omega⟩, inR_mk (by omega) (by omega), ⟨by omega, by omega⟩, fun M2 hM2 => stp _ M2 ?_ hM2⟩⟩, fun n2 => ⟨⟨by omega, by omega⟩, ⟨by omega, by omega⟩, fun M2 hM2 => ⟨fun _ => stp _ M2 ?_ hM2, fun n3 => by omega⟩⟩⟩, fun n1 => ⟨⟨by omega, by omega⟩, inR_mk (by omega) (by omega), ⟨by omega, by omega⟩, fun M2 hM2 => ⟨fun _ => ⟨fun _ => stp _ M2 ?_ hM2, fun n3 => by omega⟩, fun n2 => by omega⟩⟩⟩
      · rw [if_neg n1, if_neg n2, if_neg n3] at hg
        refine ⟨inR_mk (by omega) (by omega), ih _ _ ⟨⟨by omega, by omega⟩, h2, fun j j0 j1 => ?_, fun j j0 j1 => h4 j (by omega) j1⟩ (by omega)⟩
        by_cases q : j = i
        · rw [q, hg]; exact h4 i (by omega) (by omega)
        · exact h3 j j0 (by omega)
      · rw [if_neg n1, if_neg n2, if_pos n3] at hg; rw [zand_255, hg]
      · rw [if_neg n1, if_pos n2] at hg; rw [hg]
      · rw [if_pos n1] at hg; rw [zand_255, hg]
    have h245 : ∀ a, a = (if 1 ≤ i then gi (tbL fl x 0 0) (i - 1) else 0) → T_X10_unpacks_245 fl i a X Q M1 := by
      intro a ha
      unfold T_X10_unpacks_245
      refine ⟨fun h => h266 _ _ ha ?_, fun h => ⟨inR_mk (by omega) (by omega), ⟨by omega, by omega⟩, h266 _ _ ha ?_⟩⟩
      · rw [if_neg (by omega)]; split <;> rfl
      · rw [if_pos (by omega), h3 _ (by omega) (by omega)]
    refine ⟨fun h => h245 _ (by rw [if_neg (by omega)]), fun h => ⟨inR_mk (by omega) (by omega), ⟨by omega, by omega⟩, h245 _ ?_⟩⟩
    rw [if_pos (by omega), h3 _ (by omega) (by omega)]
theorem P_X10_unpacks {r : Nat} {base n fl : Int} {y : List Int} {Q : Int → zMem → Prop} {M : zMem} (hy : AL (M.2 r) base y) (hn : n = y.length) (hn4 : n ≤ 400) (hf : 0 ≤ base ∧ base + n ≤ alen r ∧ alen r ≤ 30000) (hr : r ≠ 590) (hb : allB y) (hQ1 : ∀ out, unp y 0 [] = .inr out → allB out → out.length ≤ 400 → ∀ M', Fr fUr M M' → AL (M'.2 590) 0 (tbL fl out 0 0) → M'.1 591 = out.length → M'.1 595 = -1 → Q 1 M') (hQ0 : ∀ fp, unp y 0 [] = .inl fp → ∀ M', Fr fUr M M' → M'.1 595 = fp → Q 0 M') : T_X10_unpacks r base n fl Q M := by
  unfold T_X10_unpacks
  intro M0 hM0
  unfold T_X10_unpacks_8
  refine zl1_rule (fun a M1 => Fr (fun k => k = 590 ∨ k = 591) M M1 ∧ ∃ out : List Int, (0 ≤ a ∧ a ≤ n) ∧ AL (M1.2 590) 0 out ∧ M1.1 591 = out.length ∧ out.length ≤ 400 ∧ allB out ∧ unp y a out = unp y 0 []) (fun a M1 => (n - a).toNat) ?_ _ M0 ⟨by rw [hM0]; exact Fr_setS (Or.inr rfl), [], ⟨by omega, by omega⟩, AL_nil _ _, by rw [hM0, setS_1, if_pos rfl]; rfl, by simp, allB_nil, rfl⟩
  intro X a M1 hI ih
  obtain ⟨h1, out, g3, g5, g4, g6, g7, g8⟩ := hI
  refine ⟨fun h => ?_, fun h => ?_⟩
  · have hu : unp y 0 [] = .inr out := by rw [← g8]; exact unp_end (by omega)
    apply P_X10_unpacks_218 g5 g4 g6 g7
    intro M2 hF2 hA2 hl2 hf2
    exact hQ1 out hu g7 g6 M2 (Fr_trans (Fr_mono h1 (fun k h => by rcases h with h | h; exact Or.inl h; exact Or.inr (Or.inl h))) hF2) hA2 hl2 hf2
  · have hyj : ∀ j, 0 ≤ j → j < n → M1.2 r (base + j) = gi y j := fun j j0 j1 => by
      by_cases q : r = 591
      · have : alen 591 = 0 := by decide +kernel
        rw [q] at hf
        omega
      · rw [h1.2 r (by omega)]; exact hy j j0 (by omega)
    have ha : 0 ≤ a ∧ a < y.length := ⟨by omega, by omega⟩
    have hba := allB_gi hb a
    rw [hyj a (by omega) (by omega)]
    have flaw : ∀ fp, unp y a out = .inl fp → T_X10_flawed fp (fun y9 M9 => (y9 = 0 ∨ y9 = 1) ∧ Q y9 M9) M1 := by
      intro fp hu
      unfold T_X10_flawed
      intro M2 hM2
      refine ⟨Or.inl rfl, hQ0 fp (by rw [← g8]; exact hu) M2 (Fr_trans (Fr_mono h1 (fun k h => by rcases h with h | h; exact Or.inl h; exact Or.inr (Or.inl h))) (by rw [hM2]; exact Fr_setS (Or.inr (Or.inr rfl)))) ?_⟩
      rw [hM2, setS_1, if_pos rfl]
    refine ⟨inR_mk (by omega) (by omega), ⟨by omega, by omega⟩, fun h8 => ⟨inR_mk (by omega) (by omega), ?_⟩, fun h8 => ⟨inR_mk (by omega) (by omega), ?_⟩⟩
    · unfold T_X10_unpacks_42
      rw [g4]
      refine ⟨inR_mk (by omega) (by omega), fun q => ⟨inR_mk (by omega) (by omega), fun _ => ⟨fun q2 => ⟨inR_mk (by omega) (by omega), ⟨by omega, by omega⟩, ?_⟩, fun q2 => ?_⟩, fun h => absurd h8 h⟩, fun q => flaw a (unp_l0 ha (by omega) (by omega))⟩
      · have hb1 := allB_gi hb (a + 1)
        rw [hyj (a + 1) (by omega) (by omega)]
        refine ⟨fun q3 => flaw _ (unp_l2 ha (by omega) (by omega) (by omega) (Or.inl q3)), fun q3 => ⟨fun q4 => flaw _ (unp_l2 ha (by omega) (by omega) (by omega) (Or.inr (Or.inl q4))), fun q4 => ⟨fun q5 => ?_, fun q5 => flaw _ (unp_l2 ha (by omega) (by omega) (by omega) (Or.inr (Or.inr (by omega))))⟩⟩⟩
        unfold T_X10_unpacks_180
        refine zl1_rule (fun k M2 => (0 ≤ k ∧ k ≤ gi y a - 125) ∧ Fr (fun k => k = 590 ∨ k = 591) M M2 ∧ AL (M2.2 590) 0 (cpyL out (gi y (a + 1)) k.toNat) ∧ M2.1 591 = (cpyL out (gi y (a + 1)) k.toNat).length) (fun k M2 => (gi y a - 125 - k).toNat) ?_ 0 M1 ⟨⟨by omega, by omega⟩, h1, g5, g4⟩
        intro Y k M2 hI2 ih2
        obtain ⟨i1, i2, i3, i4⟩ := hI2
        have hcl := cpyL_len out (gi y (a + 1)) k.toNat
        refine ⟨fun q6 => ⟨inR_mk (by omega) (by omega), ?_⟩, fun q6 => ?_⟩
        · unfold T_X10_unpacks_212
          have e : k = gi y a - 125 := by omega
          have e2 : a + 1 + 1 = a + 2 := by omega
          rw [e] at i3 i4 hcl
          rw [e2]
          refine ih _ _ ⟨i2, cpyL out (gi y (a + 1)) (gi y a - 125).toNat, ⟨by omega, by omega⟩, i3, i4, by omega, cpyL_b g7 _, ?_⟩ (by omega)
          rw [← g8, unp_l ha (by omega) (by omega) (by omega) (by omega)]
        · rw [i4, hcl]
          refine ⟨inR_mk (by omega) (by omega), ⟨by omega, by omega⟩, ?_⟩
          have hv : M2.2 590 (((out.length + k.toNat : Nat) : Int) - gi y (a + 1)) = gi (cpyL out (gi y (a + 1)) k.toNat) ((cpyL out (gi y (a + 1)) k.toNat).length - gi y (a + 1)) := by
            have := i3 (((out.length + k.toNat : Nat) : Int) - gi y (a + 1)) (by omega) (by omega)
            rw [Int.zero_add] at this
            rw [this, hcl]
          rw [hv]
          apply P_X10_comesOut i3 i4 (by omega)
          intro M3 hF3 hA3 hl3
          have e : (k + 1).toNat = k.toNat + 1 := by omega
          exact ⟨inR_mk (by omega) (by omega), ih2 _ _ ⟨⟨by omega, by omega⟩, Fr_trans i2 hF3, by rw [e, cpyL]; exact hA3, by rw [e, cpyL]; exact hl3⟩ (by omega)⟩
      · rw [hn]
        exact flaw _ (unp_l1 ha (by omega) (by omega) (by omega))
    · unfold T_X10_unpacks_42
      rw [g4]
      refine ⟨inR_mk (by omega) (by omega), fun q => ⟨inR_mk (by omega) (by omega), fun h => absurd h h8, fun _ => ⟨inR_mk (by omega) (by omega), fun q2 => ?_, fun q2 => ?_⟩⟩, fun q => flaw a (unp_s0 ha (by omega) (by omega))⟩
      · unfold T_X10_unpacks_93
        refine zl1_rule (fun k M2 => (0 ≤ k ∧ k ≤ gi y a + 1) ∧ Fr (fun k => k = 590 ∨ k = 591) M M2 ∧ AL (M2.2 590) 0 (out ++ tk (gi y) (a + 1) k.toNat) ∧ M2.1 591 = (out ++ tk (gi y) (a + 1) k.toNat).length) (fun k M2 => (gi y a + 1 - k).toNat) ?_ 0 M1 ⟨⟨by omega, by omega⟩, h1, by simpa [tk] using g5, by simpa [tk] using g4⟩
        intro Y k M2 hI2 ih2
        obtain ⟨i1, i2, i3, i4⟩ := hI2
        refine ⟨fun q6 => ⟨inR_mk (by omega) (by omega), ?_⟩, fun q6 => ?_⟩
        · unfold T_X10_unpacks_212
          have e : k = gi y a + 1 := by omega
          have e2 : a + 1 + (gi y a + 1) = a + 2 + gi y a := by omega
          rw [e] at i3 i4
          rw [e2]
          refine ih _ _ ⟨i2, out ++ tk (gi y) (a + 1) (gi y a + 1).toNat, ⟨by omega, by omega⟩, i3, i4, ?_, allB_app.mpr ⟨g7, tk_b hb _ _⟩, ?_⟩ (by omega)
          · rw [List.length_append, tk_len]; omega
          · rw [← g8, unp_s ha (by omega) (by omega) (by omega) (by omega)]
        · have e0 : base + (a + 1) + k = base + (a + 1 + k) := by omega
          have hv : M2.2 r (base + (a + 1) + k) = gi y (a + 1 + k) := by
            rw [e0]
            by_cases q : r = 591
            · have : alen 591 = 0 := by decide +kernel
              rw [q] at hf
              omega
            · rw [i2.2 r (by omega)]; exact hy (a + 1 + k) (by omega) (by omega)
          rw [hv]
          refine ⟨inR_mk (by omega) (by omega), inR_mk (by omega) (by omega), ⟨by omega, by omega⟩, ?_⟩
          apply P_X10_comesOut i3 i4 (by rw [List.length_append, tk_len]; omega)
          intro M3 hF3 hA3 hl3
          have e : (k + 1).toNat = k.toNat + 1 := by omega
          have e3 : out ++ tk (gi y) (a + 1) (k + 1).toNat = out ++ tk (gi y) (a + 1) k.toNat ++ [gi y (a + 1 + k)] := by
            rw [e, tk_snoc, ← List.append_assoc]
            have : (a + 1 + ((k.toNat : Nat) : Int)) = a + 1 + k := by omega
            rw [this]
          exact ⟨inR_mk (by omega) (by omega), ih2 _ _ ⟨⟨by omega, by omega⟩, Fr_trans i2 hF3, by rw [e3]; exact hA3, by rw [e3]; exact hl3⟩ (by omega)⟩
      · rw [hn]
        exact flaw _ (unp_s1 ha (by omega) (by omega) (by omega))
