theorem szB_at {k n : Int} (hn : 0 ≤ n ∧ n < 16) : (16 * k + n) / 16 = k ∧ (16 * k + n) % 16 = n := by omega
theorem eOK_erase {key : Int} (hk : 0 ≤ key ∧ key < 256) : eOK [32, key] := by
  refine ⟨rfl, by simp, ?_⟩
  rw [allB_cons, allB_cons]
  exact ⟨by omega, by omega, allB_nil⟩
theorem eOK_alter {key n v : Int} (hk : 0 ≤ key ∧ key < 256) (hn : 0 ≤ n ∧ n ≤ 7) (hv : 0 ≤ v ∧ v ≤ 255) : eOK [48 + n, key, v] := by
  refine ⟨?_, by simp, ?_⟩
  · show szB (48 + n) = 3
    unfold szB
    rw [if_neg (by omega), if_neg (by omega), if_pos (by omega), if_pos (by omega)]
  · rw [allB_cons, allB_cons, allB_cons]
    exact ⟨by omega, by omega, by omega, allB_nil⟩
theorem eOK_put {key : Int} {t : List Int} (hk : 0 ≤ key ∧ key < 256) (hl : t.length ≤ 8) (hb : allB t) : eOK ((16 + (t.length : Int)) :: key :: t) := by
  refine ⟨?_, by simp, ?_⟩
  · show szB (16 + (t.length : Int)) = _
    rw [List.length_cons, List.length_cons]
    unfold szB
    rw [if_pos (by omega), if_pos (by omega)]
    omega
  · rw [allB_cons, allB_cons]
    exact ⟨by omega, by omega, hb⟩
theorem eOK_grow {key : Int} {t : List Int} (hk : 0 ≤ key ∧ key < 256) (hl : 1 ≤ t.length ∧ t.length ≤ 8) (hb : allB t) : eOK ((64 + (t.length : Int)) :: key :: t) := by
  refine ⟨?_, by simp, ?_⟩
  · show szB (64 + (t.length : Int)) = _
    rw [List.length_cons, List.length_cons]
    unfold szB
    rw [if_neg (by omega), if_neg (by omega), if_neg (by omega), if_pos (by omega), if_pos (by omega)]
    omega
  · rw [allB_cons, allB_cons]
    exact ⟨by omega, by omega, hb⟩
theorem I_erase {v N : Int} {M : zMem} (h : Inv N M) (hN : N ≤ 1000) : T_X9_erase v (fun r M1 => T_X10_erase v (fun r' M2 => G N r r' M2) M1) M := by
  obtain ⟨tr, t, s, fl, ⟨f, L, d⟩, u, H, ps, hC, hR, hO⟩ := h
  unfold T_X9_erase
  apply P_X9_isByte
  · intro hk
    refine ⟨fun _ => ⟨⟨by omega, by omega⟩, fun M3 hM3 => ⟨⟨by omega, by omega⟩, fun M4 hM4 => ?_⟩⟩, fun q => by omega⟩
    have F4 : Fr (fun k => k = 4) M M4 := by rw [hM4, hM3]; exact Fr_trans (Fr_setA rfl) (Fr_setA rfl)
    have hA : AL (M4.2 4) 0 [32, v] := by
      rw [AL_cons, AL_cons]
      exact ⟨by rw [hM4, hM3]; rfl, by rw [hM4, hM3]; rfl, AL_nil _ _⟩
    apply ed_both (TR := fun K M3 => T_X10_erase v K M3) false ⟨fun h => (by cases h), fun h => (by rcases h with h | h <;> omega)⟩ hN (CS_sc hC F4 (fun k h => by omega)) (RT_cl hR F4 (fun k h => by omega)) hO hA (eOK_erase hk) rfl (by omega)
    intro K M5 hR5 hK
    show T_X10_erase v K M5
    unfold T_X10_erase
    intro M1 hM1
    apply P_X10_isKey
    · intro _
      refine ⟨fun _ => ⟨⟨by omega, by omega⟩, fun B4 hB4 => ⟨⟨by omega, by omega⟩, fun B5 hB5 => ?_⟩⟩, fun q => by omega⟩
      have := hK B5 (by rw [hB5, hB4, hM1]; exact Fr_trans (Fr_trans (Fr_setS (Or.inl rfl)) (Fr_setA (Or.inr rfl))) (Fr_setA (Or.inr rfl))) (by
        rw [AL_cons, AL_cons]
        exact ⟨by rw [hB5, hB4]; rfl, by rw [hB5, hB4]; rfl, AL_nil _ _⟩)
      have e : (fun (y2 : Int) (M5 : zMem) => (false = true → (0 ≤ y2 ∨ y2 = -7) → ∀ M6, M6 = setS M5 585 0 → K y2 M6) ∧ ((false = false ∨ ¬ (0 ≤ y2 ∨ y2 = -7)) → K y2 M5)) = fun y6 M7 => K y6 M7 := by
        funext y m
        apply propext
        exact ⟨fun h => h.2 (Or.inl rfl), fun h => ⟨fun q => (by cases q), fun _ => h⟩⟩
      rw [e] at this
      exact this
    · intro q; exact absurd hk q
  · intro hk
    refine ⟨fun q => absurd rfl q, fun _ => ?_⟩
    apply P_X9_refuse (by omega) hO.2.2.1 (by omega) hC
    intro M3 hF3 hC3
    have hR3 := RT_cl hR hF3 (fun k h => by omega)
    unfold T_X10_erase
    intro M1 hM1
    apply P_X10_isKey
    · intro q; exact absurd q hk
    · intro _; exact ⟨fun q => absurd rfl q, fun _ => ref_r hN (by omega) (CS_576 hC3 hM1) (RT_576 hR3 hM1) hO⟩
theorem I_alter {v n w N : Int} {M : zMem} (h : Inv N M) (hN : N ≤ 1000) : T_X9_alter v n w (fun r M1 => T_X10_alter v n w (fun r' M2 => G N r r' M2) M1) M := by
  obtain ⟨tr, t, s, fl, ⟨f, L, d⟩, u, H, ps, hC, hR, hO⟩ := h
  have ref : ¬ ((0 ≤ v ∧ v < 256) ∧ (0 ≤ n ∧ n ≤ 7) ∧ (0 ≤ w ∧ w ≤ 255)) → T_X9_refuse (-1) (fun y2 M3 => T_X10_alter v n w (fun r' M2 => G N y2 r' M2) M3) M := by
    intro hno
    apply P_X9_refuse (by omega) hO.2.2.1 (by omega) hC
    intro M3 hF3 hC3
    have hR3 := RT_cl hR hF3 (fun k h => by omega)
    unfold T_X10_alter
    intro M1 hM1
    have fin := ref_r hN (v := -1) (by omega) (CS_576 hC3 hM1) (RT_576 hR3 hM1) hO
    apply P_X10_isKey
    · intro hk
      refine ⟨fun q => by omega, fun _ => ?_⟩
      apply P_X10_isIn
      · intro a b
        refine ⟨fun q => by omega, fun _ => ?_⟩
        apply P_X10_isIn
        · intro a2 b2; exact absurd ⟨hk, ⟨a, b⟩, a2, b2⟩ hno
        · intro _; exact ⟨fun q => absurd rfl q, fun _ => fin⟩
      · intro _; exact ⟨fun _ => fin, fun q => absurd rfl q⟩
    · intro _; exact ⟨fun _ => fin, fun q => absurd rfl q⟩
  unfold T_X9_alter
  apply P_X9_isByte
  · intro hk
    refine ⟨fun q => by omega, fun _ => ⟨fun q => ref (by omega), fun q => ⟨fun q2 => ref (by omega), fun q2 => ?_⟩⟩⟩
    apply P_X9_isByte
    · intro hw
      refine ⟨fun _ => ⟨inR_mk (by omega) (by omega), ⟨by omega, by omega⟩, fun M13 hM13 => ⟨⟨by omega, by omega⟩, fun M14 hM14 => ⟨⟨by omega, by omega⟩, fun M15 hM15 => ?_⟩⟩⟩, fun q => by omega⟩
      have F15 : Fr (fun k => k = 4) M M15 := by rw [hM15, hM14, hM13]; exact Fr_trans (Fr_trans (Fr_setA rfl) (Fr_setA rfl)) (Fr_setA rfl)
      have hA : AL (M15.2 4) 0 [48 + n, v, w] := by
        rw [AL_cons, AL_cons, AL_cons]
        exact ⟨by rw [hM15, hM14, hM13]; rfl, by rw [hM15, hM14, hM13]; rfl, by rw [hM15, hM14, hM13]; rfl, AL_nil _ _⟩
      apply ed_both (TR := fun K M3 => T_X10_alter v n w K M3) false ⟨fun h => (by cases h), fun h => (by rcases h with h | h <;> omega)⟩ hN (CS_sc hC F15 (fun k h => by omega)) (RT_cl hR F15 (fun k h => by omega)) hO hA (eOK_alter hk (by omega) (by omega)) rfl (by omega)
      intro K M5 hR5 hK
      show T_X10_alter v n w K M5
      unfold T_X10_alter
      intro M1 hM1
      apply P_X10_isKey
      · intro _
        refine ⟨fun q => by omega, fun _ => ?_⟩
        apply P_X10_isIn
        · intro _ _
          refine ⟨fun q => by omega, fun _ => ?_⟩
          apply P_X10_isIn
          · intro _ _
            refine ⟨fun _ => ⟨inR_mk (by omega) (by omega), ⟨by omega, by omega⟩, fun B3 hB3 => ⟨⟨by omega, by omega⟩, fun B4 hB4 => ⟨⟨by omega, by omega⟩, fun B5 hB5 => ?_⟩⟩⟩, fun q => by omega⟩
            have := hK B5 (by rw [hB5, hB4, hB3, hM1]; exact Fr_trans (Fr_trans (Fr_trans (Fr_setS (Or.inl rfl)) (Fr_setA (Or.inr rfl))) (Fr_setA (Or.inr rfl))) (Fr_setA (Or.inr rfl))) (by
              rw [AL_cons, AL_cons, AL_cons]
              exact ⟨by rw [hB5, hB4, hB3]; rfl, by rw [hB5, hB4, hB3]; rfl, by rw [hB5, hB4, hB3]; rfl, AL_nil _ _⟩)
            have e : (fun (y2 : Int) (M5 : zMem) => (false = true → (0 ≤ y2 ∨ y2 = -7) → ∀ M6, M6 = setS M5 585 0 → K y2 M6) ∧ ((false = false ∨ ¬ (0 ≤ y2 ∨ y2 = -7)) → K y2 M5)) = fun y6 M7 => K y6 M7 := by
              funext y m
              apply propext
              exact ⟨fun h => h.2 (Or.inl rfl), fun h => ⟨fun q => (by cases q), fun _ => h⟩⟩
            rw [e] at this
            exact this
          · intro a; omega
        · intro a; omega
      · intro q; exact absurd hk q
    · intro hw; exact ⟨fun q => absurd rfl q, fun _ => ref (by omega)⟩
  · intro hk; exact ⟨fun _ => ref (by omega), fun q => absurd rfl q⟩
theorem P_X9_layFromTape {k key : Int} {t : List Int} {Q : zMem → Prop} {M : zMem} (hT : cTp M t) (hl : t.length ≤ 8) (hk : 0 ≤ k ∧ k ≤ 4) (hQ : ∀ M', Fr (fun k => k = 4) M M' → AL (M'.2 4) 0 ((16 * k + (t.length : Int)) :: key :: t) → Q M') : T_X9_layFromTape k key Q M := by
  have em : min (M.1 3) 8 = (t.length : Int) := by rw [hT.1]; omega
  unfold T_X9_layFromTape
  rw [em]
  refine ⟨inR_mk (by omega) (by omega), inR_mk (by omega) (by omega), ⟨by omega, by omega⟩, fun M1 hM1 => ⟨⟨by omega, by omega⟩, fun M2 hM2 => ⟨⟨⟨by omega, by omega, by omega⟩, by omega, by omega, by omega, by omega⟩, fun M3 hM3 => hQ M3 ?_ ?_⟩⟩⟩
  · rw [hM3, hM2, hM1]; exact Fr_trans (Fr_trans (Fr_setA rfl) (Fr_setA rfl)) (Fr_putA rfl)
  · have e3 : M3.2 4 = cpA (M.2 2) (upI (upI (M.2 4) 0 (16 * k + t.length)) 1 key) 0 2 t.length := by rw [hM3, hM2, hM1]; rfl
    rw [e3, AL_cons, AL_cons]
    unfold cpA
    refine ⟨?_, ?_, fun j j0 j1 => ?_⟩
    · rw [if_neg (by omega)]; rfl
    · rw [if_neg (by omega)]; rfl
    · dsimp only
      rw [if_pos (by omega)]
      have e9 : (0 : Int) + (0 + 1 + 1 + j - 2) = j := by omega
      rw [e9]
      exact AL_gi hT.2 j0 j1
theorem P_X10_byTape {k key act : Int} {t : List Int} {Q : Int → zMem → Prop} {M : zMem} (hT : rTp M t) (hl : t.length ≤ 8) (hk : 0 ≤ k ∧ k ≤ 4) (hQ : ∀ M', Fr (fun k => k = 614) M M' → AL (M'.2 614) 0 ((16 * k + (t.length : Int)) :: key :: t) → T_X10_alone act (fun y2 M3 => (0 ≤ y2 → (∀ M5 : zMem, M5 = setS M3 585 0 → Q y2 M5)) ∧ (¬ 0 ≤ y2 → ((¬ y2 = (-7) → (Q y2 M3)) ∧ (y2 = (-7) → (∀ M7 : zMem, M7 = setS M3 585 0 → Q y2 M7))))) M') : T_X10_byTape k key act Q M := by
  unfold T_X10_byTape
  rw [hT.1]
  refine ⟨inR_mk (by omega) (by omega), inR_mk (by omega) (by omega), ⟨by omega, by omega⟩, fun M9 hM9 => ⟨⟨by omega, by omega⟩, fun M10 hM10 => ?_⟩⟩
  unfold T_X10_byTape_25
  apply zl1_rule (fun v4 M1 => (0 ≤ v4 ∧ v4 ≤ t.length) ∧ Fr (fun k => k = 614) M M1 ∧ M1.2 614 0 = 16 * k + t.length ∧ M1.2 614 1 = key ∧ ∀ j, 0 ≤ j → j < v4 → M1.2 614 (2 + j) = gi t j) (fun v4 _ => ((t.length : Int) - v4).toNat)
  · intro X v4 M1 ⟨h1, h2, h3, h4, h5⟩ hX
    have e585 : M1.1 585 = t.length := by rw [h2.1 585 (by decide)]; exact hT.1
    have e584 : M1.2 584 = M.2 584 := h2.2 584 (by decide)
    rw [e585, e584]
    refine ⟨fun q => hQ M1 h2 ?_, fun q => ⟨inR_mk (by omega) (by omega), ⟨by omega, by omega⟩, ⟨by omega, by omega⟩, fun M8 hM8 => ⟨inR_mk (by omega) (by omega), hX _ _ ⟨by omega, ?_, ?_, ?_, ?_⟩ (by omega)⟩⟩⟩
    · rw [AL_cons, AL_cons]
      refine ⟨h3, h4, fun j j0 j1 => ?_⟩
      have e9 : (0 : Int) + 1 + 1 + j = 2 + j := by omega
      rw [e9]
      exact h5 j j0 (by omega)
    · rw [hM8]; exact Fr_trans h2 (Fr_setA rfl)
    · rw [hM8, setA_2, if_pos rfl, upI_ne (by omega)]; exact h3
    · rw [hM8, setA_2, if_pos rfl, upI_ne (by omega)]; exact h4
    · intro j j0 j1
      rw [hM8, setA_2, if_pos rfl]
      unfold upI
      by_cases q2 : j = v4
      · rw [if_pos (by omega), q2]; exact AL_gi hT.2 h1.1 (by omega)
      · rw [if_neg (by omega)]; exact h5 j j0 (by omega)
  · refine ⟨by omega, by rw [hM10, hM9]; exact Fr_trans (Fr_setA rfl) (Fr_setA rfl), by rw [hM10, hM9]; rfl, by rw [hM10, hM9]; rfl, fun j a b => by omega⟩
theorem tape_K {K : Int → zMem → Prop} : (fun (y2 : Int) (M5 : zMem) => (true = true → (0 ≤ y2 ∨ y2 = -7) → ∀ M6, M6 = setS M5 585 0 → K y2 M6) ∧ ((true = false ∨ ¬ (0 ≤ y2 ∨ y2 = -7)) → K y2 M5)) = fun y2 M3 => (0 ≤ y2 → (∀ M5 : zMem, M5 = setS M3 585 0 → K y2 M5)) ∧ (¬ 0 ≤ y2 → ((¬ y2 = (-7) → (K y2 M3)) ∧ (y2 = (-7) → (∀ M7 : zMem, M7 = setS M3 585 0 → K y2 M7)))) := by
  funext y m
  apply propext
  constructor
  · intro h
    exact ⟨fun q => h.1 rfl (Or.inl q), fun q => ⟨fun q2 => h.2 (Or.inr (by omega)), fun q2 => h.1 rfl (Or.inr q2)⟩⟩
  · intro h
    refine ⟨fun _ q => ?_, fun q => ?_⟩
    · by_cases q2 : 0 ≤ y
      · exact h.1 q2
      · exact (h.2 q2).2 (by omega)
    · rcases q with q | q
      · cases q
      · exact (h.2 (by omega)).1 (by omega)
theorem I_put {v N : Int} {M : zMem} (h : Inv N M) (hN : N ≤ 1000) : T_X9_put v (fun r M1 => T_X10_put v (fun r' M2 => G N r r' M2) M1) M := by
  obtain ⟨tr, t, s, fl, ⟨f, L, d⟩, u, H, ps, hC, hR, hO⟩ := h
  have ref : ¬ ((0 ≤ v ∧ v < 256) ∧ t.length ≤ 8) → T_X9_refuse (-1) (fun y2 M3 => T_X10_put v (fun r' M2 => G N y2 r' M2) M3) M := by
    intro hno
    apply P_X9_refuse (by omega) hO.2.2.1 (by omega) hC
    intro M3 hF3 hC3
    have hR3 := RT_cl hR hF3 (fun k h => by omega)
    unfold T_X10_put
    intro M1 hM1
    have hR1 := RT_576 hR3 hM1
    have fin := ref_r hN (v := -1) (by omega) (CS_576 hC3 hM1) hR1 hO
    apply P_X10_isKey
    · intro hk
      rw [hR1.2.1.1]
      exact ⟨fun q => by omega, fun _ => ⟨fun q => absurd ⟨hk, by omega⟩ hno, fun _ => fin⟩⟩
    · intro _; exact ⟨fun _ => fin, fun q => absurd rfl q⟩
  unfold T_X9_put
  rw [hC.2.1.1]
  apply P_X9_isByte
  · intro hk
    refine ⟨fun q => by omega, fun _ => ⟨fun q => ?_, fun q => ref (by omega)⟩⟩
    apply P_X9_layFromTape hC.2.1 (by omega) (by omega)
    intro M6 hF6 hA6
    apply ed_both (TR := fun K M3 => T_X10_put v K M3) true (by constructor <;> intro h <;> first | exact Or.inl rfl | rfl) hN (CS_sc hC hF6 (fun k h => by omega)) (RT_cl hR hF6 (fun k h => by omega)) hO hA6 (eOK_put hk (by omega) hO.2.1.2) rfl (by omega)
    intro K M5 hR5 hK
    show T_X10_put v K M5
    unfold T_X10_put
    intro M1 hM1
    have hR1 := RT_576 hR5 hM1
    have F1 : Fr (fun k => k = 576 ∨ k = 614) M5 M1 := by rw [hM1]; exact Fr_setS (Or.inl rfl)
    apply P_X10_isKey
    · intro _
      rw [hR1.2.1.1]
      refine ⟨fun q => by omega, fun _ => ⟨fun _ => ?_, fun q2 => absurd q q2⟩⟩
      apply P_X10_byTape hR1.2.1 (by omega) (by omega)
      intro M4 hF4 hA4
      have := hK M4 (Fr_trans F1 (Fr_mono hF4 (fun k h => Or.inr h))) hA4
      rw [tape_K] at this
      exact this
    · intro q2; exact absurd hk q2
  · intro hk; exact ⟨fun _ => ref (fun h => hk h.1), fun q => absurd rfl q⟩
theorem I_grow {v N : Int} {M : zMem} (h : Inv N M) (hN : N ≤ 1000) : T_X9_grow v (fun r M1 => T_X10_grow v (fun r' M2 => G N r r' M2) M1) M := by
  obtain ⟨tr, t, s, fl, ⟨f, L, d⟩, u, H, ps, hC, hR, hO⟩ := h
  have ref : ¬ ((0 ≤ v ∧ v < 256) ∧ 1 ≤ t.length ∧ t.length ≤ 8) → T_X9_refuse (-1) (fun y2 M3 => T_X10_grow v (fun r' M2 => G N y2 r' M2) M3) M := by
    intro hno
    apply P_X9_refuse (by omega) hO.2.2.1 (by omega) hC
    intro M3 hF3 hC3
    have hR3 := RT_cl hR hF3 (fun k h => by omega)
    unfold T_X10_grow
    intro M1 hM1
    have hR1 := RT_576 hR3 hM1
    have fin := ref_r hN (v := -1) (by omega) (CS_576 hC3 hM1) hR1 hO
    apply P_X10_isKey
    · intro hk
      rw [hR1.2.1.1]
      refine ⟨fun q => by omega, fun _ => ?_⟩
      apply P_X10_isIn
      · intro a b; exact absurd ⟨hk, by omega, by omega⟩ hno
      · intro _; exact ⟨fun q => absurd rfl q, fun _ => fin⟩
    · intro _; exact ⟨fun _ => fin, fun q => absurd rfl q⟩
  unfold T_X9_grow
  rw [hC.2.1.1]
  apply P_X9_isByte
  · intro hk
    refine ⟨fun q => by omega, fun _ => ⟨fun q => ref (by omega), fun q0 => ⟨fun q => ?_, fun q => ref (by omega)⟩⟩⟩
    apply P_X9_layFromTape hC.2.1 (by omega) (by omega)
    intro M6 hF6 hA6
    apply ed_both (TR := fun K M3 => T_X10_grow v K M3) true (by constructor <;> intro h <;> first | exact Or.inr rfl | rfl) hN (CS_sc hC hF6 (fun k h => by omega)) (RT_cl hR hF6 (fun k h => by omega)) hO hA6 (eOK_grow hk (by omega) hO.2.1.2) rfl (by omega)
    intro K M5 hR5 hK
    show T_X10_grow v K M5
    unfold T_X10_grow
    intro M1 hM1
    have hR1 := RT_576 hR5 hM1
    have F1 : Fr (fun k => k = 576 ∨ k = 614) M5 M1 := by rw [hM1]; exact Fr_setS (Or.inl rfl)
    apply P_X10_isKey
    · intro _
      rw [hR1.2.1.1]
      refine ⟨fun q => by omega, fun _ => ?_⟩
      apply P_X10_isIn
      · intro _ _
        refine ⟨fun _ => ?_, fun q => by omega⟩
        apply P_X10_byTape hR1.2.1 (by omega) (by omega)
        intro M4 hF4 hA4
        have := hK M4 (Fr_trans F1 (Fr_mono hF4 (fun k h => Or.inr h))) hA4
        rw [tape_K] at this
        exact this
      · intro a; omega
    · intro q2; exact absurd hk q2
  · intro hk; exact ⟨fun _ => ref (fun h => hk h.1), fun q => absurd rfl q⟩
