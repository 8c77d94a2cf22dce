theorem cpA_AL {f g : Int → Int} {y : List Int} (h : AL f 0 y) : AL (cpA f g 0 0 y.length) 0 y := by
  intro j j0 j1
  rw [Int.zero_add, cpA_in ⟨j0, j1⟩]
  exact AL_gi h j0 j1
theorem P_X9_takeTape {r : Nat} {y : List Int} {Q : zMem → Prop} {M : zMem} (hA : AL (M.2 r) 0 y) (hl : y.length ≤ 400) (ha : (y.length : Int) ≤ alen r ∧ 0 < alen r) (hQ : ∀ M', Fr (fun k => k = 2 ∨ k = 3) M M' → cTp M' y → Q M') : T_X9_takeTape r y.length Q M := by
  unfold T_X9_takeTape
  refine ⟨fun q => by omega, fun _ => ⟨fun q => by omega, fun _ => ⟨ha.2, fun q => by omega, fun _ => ⟨⟨⟨by omega, by omega, by omega⟩, by omega, by omega, by omega, by omega⟩, fun M4 hM4 M5 hM5 => hQ M5 ?_ ⟨by rw [hM5]; rfl, ?_⟩⟩⟩⟩⟩
  · rw [hM5, hM4]; exact Fr_trans (Fr_putA (Or.inl rfl)) (Fr_setS (Or.inr rfl))
  · have e : M5.2 2 = cpA (M.2 r) (M.2 2) 0 0 y.length := by rw [hM5, hM4]; rfl
    rw [e]; exact cpA_AL hA
theorem P_X10_pack_102 {y : List Int} {Q : Int → zMem → Prop} {M : zMem} (hA : AL (M.2 593) 0 y) (hn : M.1 585 = y.length) (hl : y.length ≤ 400) (hQ : ∀ M', Fr (fun k => k = 584) M M' → rTp M' y → T_X10_tells y.length (fun y2 M3 => Q y2 M3) M') : T_X10_pack_102 Q 0 M := by
  unfold T_X10_pack_102
  apply zl1_rule (fun v2 M1 => (0 ≤ v2 ∧ v2 ≤ y.length) ∧ Fr (fun k => k = 584) M M1 ∧ ∀ j, 0 ≤ j → j < v2 → M1.2 584 j = gi y j) (fun v2 _ => ((y.length : Int) - v2).toNat)
  · intro X v2 M1 ⟨h1, h2, h3⟩ hX
    have e585 : M1.1 585 = y.length := by rw [h2.1 585 (by decide)]; exact hn
    have e593 : M1.2 593 = M.2 593 := h2.2 593 (by decide)
    rw [e585, e593]
    refine ⟨fun q => hQ M1 h2 ⟨e585, fun j j0 j1 => by rw [Int.zero_add]; exact h3 j j0 (by omega)⟩, fun q => ⟨⟨by omega, by omega⟩, ⟨by omega, by omega⟩, fun M4 hM4 => ⟨inR_mk (by omega) (by omega), hX _ _ ⟨by omega, ?_, ?_⟩ (by omega)⟩⟩⟩
    · rw [hM4]; exact Fr_trans h2 (Fr_setA rfl)
    · intro j j0 j1
      have e4 : M4.2 584 = upI (M1.2 584) v2 (M.2 593 v2) := by rw [hM4, setA_2, if_pos rfl]
      rw [e4]
      unfold upI
      by_cases q2 : j = v2
      · rw [if_pos q2, q2]; exact AL_gi hA h1.1 (by omega)
      · rw [if_neg q2]; exact h3 j j0 (by omega)
  · exact ⟨by omega, Fr_refl M, fun j a b => by omega⟩
theorem P_X10_unpack_64 {y : List Int} {Q : Int → zMem → Prop} {M : zMem} (hA : AL (M.2 590) 0 y) (hn : M.1 585 = y.length) (hl : y.length ≤ 400) (hQ : ∀ M', Fr (fun k => k = 584) M M' → rTp M' y → T_X10_tells y.length (fun y2 M3 => Q y2 M3) M') : T_X10_unpack_64 Q 0 M := by
  unfold T_X10_unpack_64
  apply zl1_rule (fun v2 M1 => (0 ≤ v2 ∧ v2 ≤ y.length) ∧ Fr (fun k => k = 584) M M1 ∧ ∀ j, 0 ≤ j → j < v2 → M1.2 584 j = gi y j) (fun v2 _ => ((y.length : Int) - v2).toNat)
  · intro X v2 M1 ⟨h1, h2, h3⟩ hX
    have e585 : M1.1 585 = y.length := by rw [h2.1 585 (by decide)]; exact hn
    have e593 : M1.2 590 = M.2 590 := h2.2 590 (by decide)
    rw [e585, e593]
    refine ⟨fun q => hQ M1 h2 ⟨e585, fun j j0 j1 => by rw [Int.zero_add]; exact h3 j j0 (by omega)⟩, fun q => ⟨⟨by omega, by omega⟩, ⟨by omega, by omega⟩, fun M4 hM4 => ⟨inR_mk (by omega) (by omega), hX _ _ ⟨by omega, ?_, ?_⟩ (by omega)⟩⟩⟩
    · rw [hM4]; exact Fr_trans h2 (Fr_setA rfl)
    · intro j j0 j1
      have e4 : M4.2 584 = upI (M1.2 584) v2 (M.2 590 v2) := by rw [hM4, setA_2, if_pos rfl]
      rw [e4]
      unfold upI
      by_cases q2 : j = v2
      · rw [if_pos q2, q2]; exact AL_gi hA h1.1 (by omega)
      · rw [if_neg q2]; exact h3 j j0 (by omega)
  · exact ⟨by omega, Fr_refl M, fun j a b => by omega⟩
def pkF (t : List Int) (v : Int) : List Int := if v = -1 then shape t else pk t v
theorem pkF_b {t : List Int} {v : Int} (hb : allB t) (hl : t.length ≤ 400) : allB (pkF t v) := by
  unfold pkF
  split
  · exact pk_allB _ _ hb hl
  · exact pk_allB _ _ hb hl
theorem I_pack {v N : Int} {M : zMem} (h : Inv N M) (hN : N ≤ 1000) : T_X9_pack v (fun r M1 => T_X10_pack v (fun r' M2 => G N r r' M2) M1) M := by
  obtain ⟨tr, t, s, fl, D, u, H, ps, hC, hR, hO⟩ := h
  have hl := hO.2.1
  have a2 : alen 2 = 400 := alen_2
  have a384 : alen 384 = 408 := alen_384
  have ref : ¬ (-1 ≤ v ∧ v ≤ 3) → T_X9_refuse (-1) (fun y2 M3 => T_X10_pack v (fun r' M2 => G N y2 r' M2) M3) M := by
    intro hno
    apply P_X9_refuse (by omega) hO.2.2.1 (by omega) hC
    intro M3 hF3 hC3
    have hR3 := RT_cl hR hF3 (fun k h => by omega)
    unfold T_X10_pack
    intro M8 hM8
    apply P_X10_isIn
    · intro a b; exact absurd ⟨a, b⟩ hno
    · intro _; exact ⟨fun q => absurd rfl q, fun _ => ref_r hN (by omega) (CS_576 hC3 hM8) (RT_576 hR3 hM8) hO⟩
  -- the reference's run
  have rref : (-1 ≤ v ∧ v ≤ 3) → ∀ (r : Int) (K : Int → zMem → Prop) (M3 : zMem), RT M3 tr t s fl D u H ps → (∀ M', Fr (fun k => k = 576 ∨ (590 ≤ k ∧ k ≤ 594)) M3 M' → AL (M'.2 593) 0 (pkF t v) → M'.1 594 = (pkF t v).length → T_X10_pack_75 K M') → T_X10_pack v K M3 := by
    intro hv r K M3 hR3 hK
    unfold T_X10_pack
    intro M16 hM16
    have F16 : Fr (fun k => k = 576 ∨ (590 ≤ k ∧ k ≤ 594)) M3 M16 := by rw [hM16]; exact Fr_setS (Or.inl rfl)
    have hR16 := (RT_576 hR3 hM16).2.1
    apply P_X10_isIn
    · intro _ _
      refine ⟨fun _ M19 hM19 => ?_, fun q => by omega⟩
      have F19 : Fr (fun k => k = 576 ∨ (590 ≤ k ∧ k ≤ 594)) M3 M19 := by rw [hM19]; exact Fr_trans F16 (Fr_setS (by omega))
      have e591 : M19.1 591 = t.length := by rw [hM19]; exact hR16.1
      have e584 : M19.2 584 = M16.2 584 := by rw [hM19]; rfl
      have e585 : M19.1 585 = t.length := by rw [hM19, setS_1, if_neg (by decide)]; exact hR16.1
      unfold T_X10_pack_30
      apply zl1_rule (fun v2 M1 => (0 ≤ v2 ∧ v2 ≤ t.length) ∧ Fr (fun k => k = 590) M19 M1 ∧ ∀ j, 0 ≤ j → j < v2 → M1.2 590 j = gi t j) (fun v2 _ => ((t.length : Int) - v2).toNat)
      · intro X v2 M1 ⟨k1, k2, k3⟩ hX
        have x585 : M1.1 585 = t.length := by rw [k2.1 585 (by decide)]; exact e585
        have x584 : M1.2 584 = M16.2 584 := by rw [k2.2 584 (by decide)]; exact e584
        have x591 : M1.1 591 = t.length := by rw [k2.1 591 (by decide)]; exact e591
        rw [x585, x584]
        have F1 : Fr (fun k => k = 576 ∨ (590 ≤ k ∧ k ≤ 594)) M3 M1 := Fr_trans F19 (Fr_mono k2 (fun k h => by omega))
        refine ⟨fun q => ?_, fun q => ⟨⟨by omega, by omega⟩, ⟨by omega, by omega⟩, fun M15 hM15 => ⟨inR_mk (by omega) (by omega), hX _ _ ⟨by omega, ?_, ?_⟩ (by omega)⟩⟩⟩
        · have hA : AL (M1.2 590) 0 t := fun j j0 j1 => by rw [Int.zero_add]; exact k3 j j0 (by omega)
          refine ⟨fun q2 => ?_, fun q2 => ?_⟩
          · apply P_X10_packs hA x591 hl.1 hl.2
            intro M' hF' w1 w2
            refine hK M' (Fr_trans F1 (Fr_mono hF' (fun k h => by unfold fRp at h; omega))) ?_ ?_
            · unfold pkF; rw [if_neg q2]; exact w1
            · unfold pkF; rw [if_neg q2]; exact w2
          · apply P_X10_shapeOf hA x591 hl.1 hl.2
            intro M' hF' w1 w2
            refine hK M' (Fr_trans F1 (Fr_mono hF' (fun k h => by unfold fRp at h; omega))) ?_ ?_
            · unfold pkF; rw [if_pos q2]; exact w1
            · unfold pkF; rw [if_pos q2]; exact w2
        · rw [hM15]; exact Fr_trans k2 (Fr_setA rfl)
        · intro j j0 j1
          have e4 : M15.2 590 = upI (M1.2 590) v2 (M16.2 584 v2) := by rw [hM15, setA_2, if_pos rfl]
          rw [e4]
          unfold upI
          by_cases q2 : j = v2
          · rw [if_pos q2, q2]; exact AL_gi hR16.2 k1.1 (by omega)
          · rw [if_neg q2]; exact k3 j j0 (by omega)
      · exact ⟨by omega, Fr_refl M19, fun j a b => by omega⟩
    · intro a; omega
  -- the class's end
  have fin : (-1 ≤ v ∧ v ≤ 3) → ∀ M1, Fr (fun k => 384 ≤ k ∧ k ≤ 391) M M1 → AL (M1.2 384) 0 (pkF t v) → T_X9_pack_57 (pkF t v).length (fun r M1 => T_X10_pack v (fun r' M2 => G N r r' M2) M1) M1 := by
    intro hv M1 hF1 hA1
    have hC1 := CS_sc hC hF1 (fun k h => by omega)
    have hR1 := RT_cl hR hF1 (fun k h => by omega)
    have hb := pkF_b (v := v) hl.2 hl.1
    unfold T_X9_pack_57
    refine ⟨fun q => ?_, fun q => ?_⟩
    · apply P_X9_takeTape (r := 384) hA1 (by omega) (by omega)
      intro M2 hF2 hT2
      have hC2 := CS_Tp hC1 hF2 (fun k _ h => by unfold cTpI; omega) hT2
      refine P_X9_accept (M := M2) hC2 ?_
      intro M3 hF3 hC3
      have hR3 := RT_cl (RT_cl hR1 hF2 (fun k h => by omega)) hF3 (fun k h => by omega)
      apply rref hv 0 _ M3 hR3
      intro M5 hF5 w1 w2
      have hC5 := CS_rf hC3 hF5 (fun k h => by omega)
      have hR5 := RT_sc hR3 hF5 (fun k h => by omega)
      unfold T_X10_pack_75
      rw [w2]
      refine ⟨fun _ M6 hM6 => ?_, fun q2 => absurd q q2⟩
      have F6 : Fr (fun k => k = 585) M5 M6 := by rw [hM6]; exact Fr_setS rfl
      apply P_X10_pack_102 (y := pkF t v) (by rw [hM6]; exact w1) (by rw [hM6]; rfl) (by omega)
      intro M7 hF7 hT7
      have FF : Fr (fun k => k = 584 ∨ k = 585) M5 M7 := Fr_trans (Fr_mono F6 (fun k h => Or.inr h)) (Fr_mono hF7 (fun k h => Or.inl h))
      refine tell_r (CS_rf hC5 FF (fun k h => by omega)) (RT_Tp hR5 FF (fun k _ h => by unfold rTpI; omega) hT7) ?_
      obtain ⟨o1, o2, o3, o4, o5, o6, o7⟩ := OKS_mono hO (N' := N + 1) (by omega)
      exact ⟨o1, ⟨by omega, hb⟩, o3, o4, o5, o6, o7⟩
    · apply P_X9_refuse (by omega) hO.2.2.1 (by omega) hC1
      intro M3 hF3 hC3
      have hR3 := RT_cl hR1 hF3 (fun k h => by omega)
      apply rref hv 0 _ M3 hR3
      intro M5 hF5 w1 w2
      unfold T_X10_pack_75
      rw [w2]
      exact ⟨fun q2 => absurd q2 q, fun _ => ref_r hN (by omega) (CS_rf hC3 hF5 (fun k h => by omega)) (RT_sc hR3 hF5 (fun k h => by omega)) hO⟩
  unfold T_X9_pack
  rw [hC.2.1.1]
  refine ⟨fun q => ref (by omega), fun q => ⟨fun q2 => ⟨fun q3 => ?_, fun q3 => ?_⟩, fun q2 => ref (by omega)⟩⟩
  · apply P_X6_packRow (r := 2) (Or.inr rfl) hC.2.1.2 rfl (by omega) (by omega) (by unfold fPk; decide) hl.2
    intro M1 hF1 hA1
    have := fin (by omega) M1 (Fr_mono hF1 (fun k h => by unfold fPk at h; omega))
    unfold pkF at this
    rw [if_neg q3] at this
    exact this hA1
  · apply P_X6_packBest (r := 2) (Or.inr rfl) hC.2.1.2 rfl (by omega) (by omega) (by unfold fPk; decide) hl.2
    intro M1 hF1 hA1 _
    have := fin (by omega) M1 (Fr_mono hF1 (fun k h => by unfold fPb fPk at h; omega))
    unfold pkF at this
    rw [if_pos q3] at this
    exact this hA1
theorem I_unpack {v N : Int} {M : zMem} (h : Inv N M) (hN : N ≤ 1000) : T_X9_unpack v (fun r M1 => T_X10_unpack v (fun r' M2 => G N r r' M2) M1) M := by
  obtain ⟨tr, t, s, fl, D, u, H, ps, hC, hR, hO⟩ := h
  have hl := hO.2.1
  have a2 : alen 2 = 400 := alen_2
  have a385 : alen 385 = 400 := alen_385
  have a584 : alen 584 = 400 := alen_584
  have ref : ¬ (0 ≤ v ∧ v ≤ 3) → T_X9_refuse (-1) (fun y2 M3 => T_X10_unpack v (fun r' M2 => G N y2 r' M2) M3) M := by
    intro hno
    apply P_X9_refuse (by omega) hO.2.2.1 (by omega) hC
    intro M3 hF3 hC3
    have hR3 := RT_cl hR hF3 (fun k h => by omega)
    unfold T_X10_unpack
    intro M8 hM8
    apply P_X10_isIn
    · intro a b; exact absurd ⟨a, b⟩ hno
    · intro _; exact ⟨fun q => absurd rfl q, fun _ => ref_r hN (by omega) (CS_576 hC3 hM8) (RT_576 hR3 hM8) hO⟩
  unfold T_X9_unpack
  rw [hC.2.1.1]
  refine ⟨fun q => ref (by omega), fun q => ⟨fun q2 => ?_, fun q2 => ref (by omega)⟩⟩
  apply P_X6_unpackRow (o := 6) (r := 2) hC.2.1.2 rfl (by omega) (by omega) (by decide) hl.2
  · intro out hu hob hol M6 hF6 hA6 hfl6 M7 hM7
    have F6 : Fr (fun k => k = 385 ∨ k = 386) M M6 := Fr_mono hF6 (fun k h => by unfold fUn at h; omega)
    have F7 : Fr (fun k => k = 7) M6 M7 := by rw [hM7]; exact Fr_setS rfl
    have hC6 := CS_sc hC F6 (fun k h => by omega)
    have hC7 : CS M7 tr t s (-1) D u H ps := CS_Fl hC6 F7 (fun k _ h => by unfold cFlI; omega) (by rw [hM7]; exact hfl6)
    have hR7 := RT_cl (RT_cl hR F6 (fun k h => by omega)) F7 (fun k h => by omega)
    have hlen := tbL_len v out 0 0
    have hA7 : AL (M7.2 385) 0 (tbL v out 0 0) := by rw [hM7]; exact hA6
    refine ⟨fun _ => ?_, fun q3 => by omega⟩
    rw [← hlen]
    apply P_X9_takeTape (r := 385) hA7 (by omega) (by omega)
    intro M9 hF9 hT9
    have hC9 := CS_Tp hC7 hF9 (fun k _ h => by unfold cTpI; omega) hT9
    refine P_X9_accept (M := M9) hC9 ?_
    intro M11 hF11 hC11
    have hR11 := RT_cl (RT_cl hR7 hF9 (fun k h => by omega)) hF11 (fun k h => by omega)
    unfold T_X10_unpack
    intro M5 hM5
    have hR5 := RT_576 hR11 hM5
    have hC5 := CS_576 hC11 hM5
    apply P_X10_isIn
    · intro _ _
      rw [hR5.2.1.1]
      refine ⟨fun _ => ?_, fun q => by omega⟩
      apply P_X10_unpacks (r := 584) hR5.2.1.2 rfl (by omega) (by omega) (by decide) hl.2
      · intro out' hu' hob' hol' B9 hFB9 hA' h591 h595 B10 hB10
        have eo : out' = out := by rw [hu] at hu'; exact (Sum.inr.inj hu').symm
        rw [eo] at hA' h591
        have G9 : Fr (fun k => k = 590 ∨ k = 591 ∨ k = 595) M5 B9 := Fr_mono hFB9 (fun k h => by unfold fUr at h; omega)
        have G10 : Fr (fun k => k = 586) B9 B10 := by rw [hB10]; exact Fr_setS rfl
        refine ⟨fun _ B12 hB12 => ?_, fun q3 => by omega⟩
        have x591 : B10.1 591 = (tbL v out 0 0).length := by rw [hB10, setS_1, if_neg (by decide), h591, hlen]
        rw [x591] at hB12
        have G12 : Fr (fun k => k = 585) B10 B12 := by rw [hB12]; exact Fr_setS rfl
        apply P_X10_unpack_64 (y := tbL v out 0 0) (by rw [hB12, hB10]; exact hA') (by rw [hB12]; rfl) (by omega)
        intro B13 hF13 hT13
        have GA := Fr_trans (Fr_mono G12 (fun k h => Or.inr h) : Fr (fun k => k = 584 ∨ k = 585) B10 B12) (Fr_mono hF13 (fun k h => Or.inl h))
        have hR10 : RT B10 tr t s (-1) D u H ps := RT_Fl (RT_sc hR5 G9 (fun k h => by omega)) G10 (fun k _ h => by unfold rFlI; omega) (by rw [hB10]; exact h595)
        have hC13 := CS_rf (CS_rf (CS_rf hC5 G9 (fun k h => by omega)) G10 (fun k h => by omega)) GA (fun k h => by omega)
        refine tell_r hC13 (RT_Tp hR10 GA (fun k _ h => by unfold rTpI; omega) hT13) ?_
        obtain ⟨o1, o2, o3, o4, o5, o6, o7⟩ := OKS_mono hO (N' := N + 1) (by omega)
        exact ⟨o1, ⟨by omega, tbL_b v out 0 0 hob (by omega)⟩, o3, o4, o5, o6, o7⟩
      · intro fp hu'
        rw [hu] at hu'
        cases hu'
    · intro a; omega
  · intro fp hu M6 hF6 hfl6 M7 hM7
    have F6 : Fr (fun k => k = 385 ∨ k = 386) M M6 := Fr_mono hF6 (fun k h => by unfold fUn at h; omega)
    have F7 : Fr (fun k => k = 7) M6 M7 := by rw [hM7]; exact Fr_setS rfl
    have hC6 := CS_sc hC F6 (fun k h => by omega)
    have hC7 : CS M7 tr t s fp D u H ps := CS_Fl hC6 F7 (fun k _ h => by unfold cFlI; omega) (by rw [hM7]; exact hfl6)
    have hR7 := RT_cl (RT_cl hR F6 (fun k h => by omega)) F7 (fun k h => by omega)
    refine ⟨fun q3 => absurd rfl q3, fun _ => ?_⟩
    apply P_X9_refuse (by omega) hO.2.2.1 (by omega) hC7
    intro M3 hF3 hC3
    have hR3 := RT_cl hR7 hF3 (fun k h => by omega)
    unfold T_X10_unpack
    intro M5 hM5
    have hR5 := RT_576 hR3 hM5
    have hC5 := CS_576 hC3 hM5
    apply P_X10_isIn
    · intro _ _
      rw [hR5.2.1.1]
      refine ⟨fun _ => ?_, fun q => by omega⟩
      apply P_X10_unpacks (r := 584) hR5.2.1.2 rfl (by omega) (by omega) (by decide) hl.2
      · intro out' hu'
        rw [hu] at hu'
        cases hu'
      · intro fp' hu' B9 hFB9 h595 B10 hB10
        have eo : fp' = fp := by rw [hu] at hu'; exact (Sum.inl.inj hu').symm
        rw [eo] at h595
        have G9 : Fr (fun k => k = 590 ∨ k = 591 ∨ k = 595) M5 B9 := Fr_mono hFB9 (fun k h => by unfold fUr at h; omega)
        have G10 : Fr (fun k => k = 586) B9 B10 := by rw [hB10]; exact Fr_setS rfl
        have hR10 : RT B10 tr t s fp D u H ps := RT_Fl (RT_sc hR5 G9 (fun k h => by omega)) G10 (fun k _ h => by unfold rFlI; omega) (by rw [hB10]; exact h595)
        exact ⟨fun q3 => absurd rfl q3, fun _ => ref_r hN (by omega) (CS_rf (CS_rf hC5 G9 (fun k h => by omega)) G10 (fun k h => by omega)) hR10 hO⟩
    · intro a; omega
