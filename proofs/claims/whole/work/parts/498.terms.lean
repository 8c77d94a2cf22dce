theorem trm_up {tr : Int → Int} {v w : Int} (h : trmOK tr) (hv : 0 ≤ v ∧ v < 5) (h1 : zTL v ≤ w) (h2 : w ≤ zTH v) : trmOK (upI tr v w) := by
  have c : v = 0 ∨ v = 1 ∨ v = 2 ∨ v = 3 ∨ v = 4 := by omega
  obtain ⟨a, b, c1, d, e⟩ := h
  rcases c with rfl | rfl | rfl | rfl | rfl
  · have l : zTL 0 = 0 := rfl
    have g : zTH 0 = 16 := rfl
    rw [l] at h1; rw [g] at h2
    exact ⟨⟨h1, h2⟩, b, c1, d, e⟩
  · have l : zTL 1 = 1 := rfl
    have g : zTH 1 = 16 := rfl
    rw [l] at h1; rw [g] at h2
    exact ⟨a, ⟨h1, h2⟩, c1, d, e⟩
  · have l : zTL 2 = 0 := rfl
    have g : zTH 2 = 100 := rfl
    rw [l] at h1; rw [g] at h2
    exact ⟨a, b, ⟨h1, h2⟩, d, e⟩
  · have l : zTL 3 = 1 := rfl
    have g : zTH 3 = 32 := rfl
    rw [l] at h1; rw [g] at h2
    exact ⟨a, b, c1, ⟨h1, h2⟩, e⟩
  · have l : zTL 4 = 1 := rfl
    have g : zTH 4 = 4 := rfl
    rw [l] at h1; rw [g] at h2
    exact ⟨a, b, c1, d, ⟨h1, h2⟩⟩
theorem I_terms {v w N : Int} {M : zMem} (h : Inv N M) (hN : N ≤ 1000) : T_X9_terms v w (fun r M1 => T_X10_terms v w (fun r' M2 => G N r r' M2) M1) M := by
  obtain ⟨tr, t, s, fl, D, u, H, ps, hC, hR, hO⟩ := h
  have ref : ¬ ((0 ≤ v ∧ v < 5) ∧ zTL v ≤ w ∧ w ≤ zTH v) → T_X9_refuse (-1) (fun y2 M3 => T_X10_terms v w (fun r' M2 => G N y2 r' M2) M3) M := by
    intro hno
    apply P_X9_refuse (by omega) hO.2.2.1 (by omega) hC
    intro M3 hF3 hC3
    have hR3 := RT_cl hR hF3 (fun k h => by omega)
    unfold T_X10_terms
    intro M8 hM8
    have hR8 := RT_576 hR3 hM8
    have hfin := ref_r hN (v := -1) (by omega) (CS_576 hC3 hM8) hR8 hO
    apply P_X10_isIn
    · intro a b
      have hb := hR8.1.2 v a (by omega)
      rw [hb.1, hb.2]
      refine ⟨fun q => by omega, fun _ => ⟨⟨a, by omega⟩, ⟨a, by omega⟩, ?_⟩⟩
      apply P_X10_isIn
      · intro a2 b2; exact absurd ⟨⟨a, by omega⟩, a2, b2⟩ hno
      · intro _; exact ⟨fun q => absurd rfl q, fun _ => hfin⟩
    · intro _; exact ⟨fun _ => hfin, fun q => absurd rfl q⟩
  unfold T_X9_terms
  refine ⟨fun q => ref (by omega), fun q => ⟨fun q2 => ref (by omega), fun q2 => ⟨⟨by omega, by omega⟩, fun q3 => ref (by omega), fun q3 => ⟨⟨by omega, by omega⟩, fun q4 => ⟨⟨by omega, by omega⟩, ⟨by omega, by omega⟩, fun M11 hM11 => ⟨⟨by omega, by omega⟩, ?_⟩⟩, fun q4 => ref (by omega)⟩⟩⟩⟩
  have hv : 0 ≤ v ∧ v < 5 := by omega
  have F11 : Fr (fun k => k = 0) M M11 := by rw [hM11]; exact Fr_setA rfl
  have e11 : M11.2 0 = upI (M.2 0) v w := by rw [hM11, setA_2, if_pos rfl]
  have hT11 : cTr M11 (upI tr v w) := by unfold cTr; rw [e11]; exact upI_agT hC.1 v w
  have hC11 := CS_Tr hC F11 (fun k _ h => by unfold cTrI; omega) hT11
  have htr := trm_up hO.1 hv (by omega) q4
  have hlim := htr.2.2.2.2
  obtain ⟨lim, hlm⟩ : ∃ n : Nat, (n : Int) = upI tr v w 4 := ⟨(upI tr v w 4).toNat, by omega⟩
  have e4 : M11.2 0 4 = lim := by rw [hlm]; exact hT11 4 (by omega) (by omega)
  have hh := hO.2.2.2.2.2.1.1
  have h4 := hO.1.2.2.2.2
  rw [e4]
  apply P_X3_shrinkTo hC11.2.2.2.2.2.2.1.1 (by omega)
  intro M12 hF12 hH12
  have hC12 : CS M12 (upI tr v w) t s fl D u (H.1.drop (H.1.length - lim), H.2) ps := CS_He hC11 hF12 (fun k _ h => by unfold cHeI; omega) ⟨hH12, by rw [hF12.1 449 (by decide)]; exact hC11.2.2.2.2.2.2.1.2⟩
  refine P_X9_accept (M := M12) hC12 ?_
  intro M14 hF14 hC14
  have FA : Fr (fun k => k < 576) M M14 := Fr_trans (Fr_trans (Fr_mono F11 (fun k h => by omega)) (Fr_mono hF12 (fun k h => by omega))) (Fr_mono hF14 (fun k h => by omega))
  have hR14 := RT_cl hR FA (fun k h => by omega)
  have ev : M.2 0 v = tr v := hC.1 v hv.1 hv.2
  rw [ev]
  unfold T_X10_terms
  intro M8 hM8
  have hR8 := RT_576 hR14 hM8
  have hC8 := CS_576 hC14 hM8
  apply P_X10_isIn
  · intro a b
    have hb := hR8.1.2 v hv.1 hv.2
    rw [hb.1, hb.2]
    refine ⟨fun q => by omega, fun _ => ⟨hv, hv, ?_⟩⟩
    apply P_X10_isIn
    · intro a2 b2
      refine ⟨fun _ => ⟨hv, hv, fun M15 hM15 => ?_⟩, fun q => by omega⟩
      have F15 : Fr (fun k => k = 579) M8 M15 := by rw [hM15]; exact Fr_setA rfl
      have e15 : M15.2 579 = upI (M8.2 579) v w := by rw [hM15, setA_2, if_pos rfl]
      have hR15 : RT M15 (upI tr v w) t s fl D u H ps := by
        refine RT_Tr hR8 F15 (fun k _ h => by unfold rTrI; omega) ⟨by rw [e15]; exact upI_agT hR8.1.1 v w, fun j j0 j1 => ?_⟩
        rw [F15.2 580 (by decide), F15.2 581 (by decide)]; exact hR8.1.2 j j0 j1
      have hC15 := CS_rf hC8 F15 (fun k h => by omega)
      have ev8 : M8.2 579 v = tr v := hR8.1.1 v hv.1 hv.2
      rw [ev8]
      have fin : ∀ M1, Fr (fun k => k = 611 ∨ k = 612) M15 M1 → HR M1 (H.1.drop (H.1.length - lim)) → T_X10_tells (tr v) (fun y2 M3 => (fun r' M2 => G N (tr v) r' M2) y2 M3) M1 := by
        intro M1 hF1 hH1
        have hR1 : RT M1 (upI tr v w) t s fl D u (H.1.drop (H.1.length - lim), H.2) ps := RT_He hR15 hF1 (fun k _ h => by unfold rHeI; omega) ⟨hH1, by rw [hF1.1 613 (by decide)]; exact hR15.2.2.2.2.2.2.1.2⟩
        refine tell_r (CS_rf hC15 hF1 (fun k h => by omega)) hR1 ?_
        obtain ⟨o1, o2, o3, o4, o5, o6, o7⟩ := OKS_mono hO (N' := N + 1) (by omega)
        refine ⟨htr, o2, o3, o4, o5, ⟨?_, o6.2⟩, o7⟩
        show (((H.1.drop (H.1.length - lim)).length : Nat) : Int) ≤ _
        rw [List.length_drop]; omega
      have hH15 := hR15.2.2.2.2.2.2.1.1
      unfold T_X10_terms_53
      by_cases q5 : v = 4
      · have ew : w = lim := by rw [hlm, q5]; exact (upI_same _ _ _).symm
        apply zl0_ruleN (fun n M1 => ∃ k : Nat, n = 4 - k ∧ k ≤ H.1.length - lim ∧ HR M1 (H.1.drop k) ∧ Fr (fun k => k = 611 ∨ k = 612) M15 M1) (n := 4)
        · intro X n M1 ⟨k, k1, k2, k3, k4⟩ hX
          have e612 := k3.1
          rw [List.length_drop] at e612
          refine ⟨fun q => absurd q5 q, fun _ => ⟨fun q6 => ?_, fun q6 => ?_⟩⟩
          · have : k = H.1.length - lim := by omega
            rw [this] at k3
            exact fin M1 k4 k3
          · apply P_X10_lets k3 (by rw [List.length_drop]; omega) (by rw [List.length_drop]; omega)
            intro M7 hF7 hH7
            refine hX (4 - (k + 1)) M7 (by omega) ⟨k + 1, rfl, by omega, ?_, Fr_trans k4 hF7⟩
            have e : (H.1.drop k).eraseIdx (0 : Int).toNat = H.1.drop (k + 1) := by
              rw [← List.drop_drop, List.drop_one]
              cases H.1.drop k <;> rfl
            rw [← e]; exact hH7
        · exact ⟨0, rfl, by omega, hH15, Fr_refl M15⟩
      · have ew : upI tr v w 4 = tr 4 := upI_ne (fun e => q5 e.symm)
        have e0 : H.1.length - lim = 0 := by omega
        rw [e0, List.drop_zero] at fin
        apply zl0_ruleN (fun n M1 => M1 = M15) (n := 0)
        · intro X n M1 h1 hX
          rw [h1]
          exact ⟨fun _ => fin M15 (Fr_refl M15) hH15, fun q => absurd q q5⟩
        · rfl
    · intro a2; omega
  · intro a; omega
