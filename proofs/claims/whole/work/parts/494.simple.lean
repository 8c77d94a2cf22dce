section
variable {tr : Int → Int} {t : List Int} {s : Int × (Int → Int)} {fl : Int} {D : (Int → Int) × Lrn × Int} {u : Int × Int} {H : List Int × Int} {ps : List Mom}
theorem CS_576 {M M1 : zMem} (h : CS M tr t s fl D u H ps) (e : M1 = setS M 576 0) : CS M1 tr t s fl D u H ps := by rw [e]; exact CS_rf h (F576 M) (fun k h => by omega)
theorem RT_576 {M M1 : zMem} (h : RT M tr t s fl D u H ps) (e : M1 = setS M 576 0) : RT M1 tr t s fl D u H ps := by rw [e]; exact RT_sc h (F576 M) (fun k h => by omega)
theorem G_576 {N r r' : Int} {M M1 : zMem} (hC : CS M tr t s fl D u H ps) (hR : RT M tr t s fl D u H ps) (hO : OKS N tr t s D u H ps) (e : M1 = setS M 576 0) (hr : r = r') : G N r r' M1 := by
  rw [hr]; exact G_in (CS_576 hC e) (RT_576 hR e) (OKS_mono hO (by omega))
end
theorem I_tape {v N : Int} {M : zMem} (h : Inv N M) : T_X9_tape v (fun r => T_X10_tape v (fun r' M2 => G N r r' M2) M) M := by
  obtain ⟨tr, t, s, fl, D, u, H, ps, hC, hR, hO⟩ := h
  have hc := hC.2.1
  have hl := hO.2.1.1
  have key : ∀ r, r = (if 0 ≤ v ∧ v < t.length then gi t v else -1) → T_X10_tape v (fun r' M2 => G N r r' M2) M := by
    intro r hr
    unfold T_X10_tape
    intro M1 hM1
    have hR1 := (RT_576 hR hM1).2.1
    rw [hR1.1]
    refine ⟨inR_mk (by omega) (by omega), ?_⟩
    apply P_X10_isIn
    · intro a b
      refine ⟨fun q => by omega, fun _ => ⟨⟨by omega, by omega⟩, ?_⟩⟩
      rw [if_pos (by omega)] at hr
      rw [AL_gi hR1.2 a (by omega)]
      exact G_576 hC hR hO hM1 hr
    · intro a
      rw [if_neg (by omega)] at hr
      exact ⟨fun _ => G_576 hC hR hO hM1 hr, fun q => absurd rfl q⟩
  unfold T_X9_tape
  rw [hc.1]
  refine ⟨fun q => key _ (by rw [if_neg (by omega)]), fun q => ⟨fun q2 => key _ (by rw [if_neg (by omega)]), fun q2 => ⟨⟨by omega, by omega⟩, key _ ?_⟩⟩⟩
  rw [if_pos (by omega), AL_gi hc.2 (by omega) (by omega)]
theorem I_flaw {N : Int} {M : zMem} (h : Inv N M) : T_X9_flaw (fun r => T_X10_flaw (fun r' M2 => G N r r' M2) M) M := by
  obtain ⟨tr, t, s, fl, D, u, H, ps, hC, hR, hO⟩ := h
  unfold T_X9_flaw T_X10_flaw
  intro M1 hM1
  exact G_576 hC hR hO hM1 (by rw [(RT_576 hR hM1).2.2.2.1, hC.2.2.2.1])
theorem I_written {N : Int} {M : zMem} (h : Inv N M) : T_X9_written (fun r => T_X10_written (fun r' M2 => G N r r' M2) M) M := by
  obtain ⟨tr, t, s, fl, D, u, H, ps, hC, hR, hO⟩ := h
  unfold T_X9_written T_X10_written
  intro M1 hM1
  exact G_576 hC hR hO hM1 (by rw [(RT_576 hR hM1).2.2.2.2.2.1.2, hC.2.2.2.2.2.1.2])
theorem I_status {N : Int} {M : zMem} (h : Inv N M) : T_X9_status (fun r => T_X10_status (fun r' M2 => G N r r' M2) M) M := by
  obtain ⟨tr, t, s, fl, D, u, H, ps, hC, hR, hO⟩ := h
  unfold T_X9_status T_X10_status
  intro M1 hM1
  exact G_576 hC hR hO hM1 (by rw [(RT_576 hR hM1).2.2.1.1, hC.2.2.1.1])
theorem I_block {v w N : Int} {M : zMem} (h : Inv N M) : T_X9_block v w (fun r => T_X10_block v w (fun r' M2 => G N r r' M2) M) M := by
  obtain ⟨tr, t, s, fl, D, u, H, ps, hC, hR, hO⟩ := h
  have hc := hC.2.2.2.2.1.1
  have key : ∀ r, r = (if (0 ≤ v ∧ v < 10) ∧ (0 ≤ w ∧ w < 64) then D.1 (64 * v + w) else -1) → T_X10_block v w (fun r' M2 => G N r r' M2) M := by
    intro r hr
    unfold T_X10_block
    intro M1 hM1
    have hR1 := (RT_576 hR hM1).2.2.2.2.1.1
    apply P_X10_isIn
    · intro a b
      refine ⟨fun q => by omega, fun _ => ?_⟩
      apply P_X10_isIn
      · intro a2 b2
        refine ⟨fun q => by omega, fun _ => ⟨inR_mk (by omega) (by omega), inR_mk (by omega) (by omega), ⟨by omega, by omega⟩, G_576 hC hR hO hM1 ?_⟩⟩
        rw [if_pos (by omega)] at hr
        rw [hr, rv_lo (by omega)]
        exact (hR1 _ (by omega) (by omega)).symm
      · intro a2
        rw [if_neg (by omega)] at hr
        exact ⟨fun _ => G_576 hC hR hO hM1 hr, fun q => absurd rfl q⟩
    · intro a
      rw [if_neg (by omega)] at hr
      exact ⟨fun _ => G_576 hC hR hO hM1 hr, fun q => absurd rfl q⟩
  unfold T_X9_block
  refine ⟨fun q => key _ (by rw [if_neg (by omega)]), fun q => ⟨fun q2 => key _ (by rw [if_neg (by omega)]), fun q2 => ⟨fun q3 => key _ (by rw [if_neg (by omega)]), fun q3 => ⟨fun q4 => ⟨inR_mk (by omega) (by omega), inR_mk (by omega) (by omega), ⟨by omega, by omega⟩, key _ ?_⟩, fun q4 => key _ (by rw [if_neg (by omega)])⟩⟩⟩⟩
  rw [if_pos (by omega), hc _ (by omega) (by omega)]
  have e9 : v * 64 + w = 64 * v + w := by omega
  rw [e9]
theorem I_directory {v N : Int} {M : zMem} (h : Inv N M) : T_X9_directory v (fun r => T_X10_directory v (fun r' M2 => G N r r' M2) M) M := by
  obtain ⟨tr, t, s, fl, D, u, H, ps, hC, hR, hO⟩ := h
  have hc := hC.2.2.2.2.1.1
  have key : ∀ r, r = (if 0 ≤ v ∧ v < 21 then D.1 (640 + v) else -1) → T_X10_directory v (fun r' M2 => G N r r' M2) M := by
    intro r hr
    unfold T_X10_directory
    intro M1 hM1
    have hR1 := (RT_576 hR hM1).2.2.2.2.1.1
    apply P_X10_isIn
    · intro a b
      refine ⟨fun q => by omega, fun _ => ⟨inR_mk (by omega) (by omega), ⟨by omega, by omega⟩, G_576 hC hR hO hM1 ?_⟩⟩
      rw [if_pos (by omega)] at hr
      rw [hr, rv_lo (by omega)]
      exact (hR1 _ (by omega) (by omega)).symm
    · intro a
      rw [if_neg (by omega)] at hr
      exact ⟨fun _ => G_576 hC hR hO hM1 hr, fun q => absurd rfl q⟩
  unfold T_X9_directory
  refine ⟨fun q => key _ (by rw [if_neg (by omega)]), fun q => ⟨fun q2 => key _ (by rw [if_neg (by omega)]), fun q2 => ⟨inR_mk (by omega) (by omega), ⟨by omega, by omega⟩, key _ ?_⟩⟩⟩
  rw [if_pos (by omega), hc _ (by omega) (by omega)]
theorem I_journal {v N : Int} {M : zMem} (h : Inv N M) : T_X9_journal v (fun r => T_X10_journal v (fun r' M2 => G N r r' M2) M) M := by
  obtain ⟨tr, t, s, fl, D, u, H, ps, hC, hR, hO⟩ := h
  have hc := hC.2.2.2.2.1.1
  have key : ∀ r, r = (if 0 ≤ v ∧ v < 673 then D.1 (661 + v) else -1) → T_X10_journal v (fun r' M2 => G N r r' M2) M := by
    intro r hr
    unfold T_X10_journal
    intro M1 hM1
    have hR1 := (RT_576 hR hM1).2.2.2.2.1.1
    apply P_X10_isIn
    · intro a b
      refine ⟨fun q => by omega, fun _ => ⟨inR_mk (by omega) (by omega), ⟨by omega, by omega⟩, G_576 hC hR hO hM1 ?_⟩⟩
      rw [if_pos (by omega)] at hr
      rw [hr, rv_hi (x := 661 + v) (by omega) (by omega)]
      exact (hR1 _ (by omega) (by omega)).symm
    · intro a
      rw [if_neg (by omega)] at hr
      exact ⟨fun _ => G_576 hC hR hO hM1 hr, fun q => absurd rfl q⟩
  unfold T_X9_journal
  refine ⟨fun q => key _ (by rw [if_neg (by omega)]), fun q => ⟨fun q2 => key _ (by rw [if_neg (by omega)]), fun q2 => ⟨inR_mk (by omega) (by omega), ⟨by omega, by omega⟩, key _ ?_⟩⟩⟩
  rw [if_pos (by omega), hc _ (by omega) (by omega)]
theorem I_end {v N : Int} {M : zMem} (h : Inv N M) : T_X9_end v (fun r M1 => T_X10_end v (fun r' M2 => G N r r' M2) M1) M := by
  obtain ⟨tr, t, s, fl, D, u, H, ps, hC, hR, hO⟩ := h
  have hc := hC.2.1
  have hl := hO.2.1
  unfold T_X9_end
  have no : ¬ (0 ≤ v ∧ v ≤ t.length) → T_X10_end v (fun r' M2 => G N (-1) r' M2) M := by
    intro q
    unfold T_X10_end
    intro M1 hM1
    have hR1 := (RT_576 hR hM1).2.1
    rw [hR1.1]
    apply P_X10_isIn
    · intro a b; exact absurd ⟨a, b⟩ q
    · intro a; exact ⟨fun q => absurd rfl q, fun _ => G_576 hC hR hO hM1 rfl⟩
  rw [hc.1]
  refine ⟨fun q => no (by omega), fun q => ⟨fun q2 M3 hM3 => ?_, fun q2 => no (by omega)⟩⟩
  have F3 : Fr (fun k => k = 3) M M3 := by rw [hM3]; exact Fr_setS rfl
  have lt : ((t.take v.toNat).length : Int) = v := by rw [List.length_take]; omega
  have hC3 : CS M3 tr (t.take v.toNat) s fl D u H ps := CS_Tp hC F3 (fun k _ h => by unfold cTpI; omega) ⟨by rw [hM3, lt]; rfl, by rw [hM3]; exact AL_take hc.2 _⟩
  have hR3 := RT_cl hR F3 (fun k h => by omega)
  unfold T_X10_end
  intro M1 hM1
  have hR1 := RT_576 hR3 hM1
  rw [hR1.2.1.1]
  apply P_X10_isIn
  · intro a b
    refine ⟨fun _ M4 hM4 => ?_, fun q => by omega⟩
    have F4 : Fr (fun k => k = 585) M1 M4 := by rw [hM4]; exact Fr_setS rfl
    refine G_in (CS_rf (CS_576 hC3 hM1) F4 (fun k h => by omega)) (RT_Tp hR1 F4 (fun k _ h => by unfold rTpI; omega) ⟨by rw [hM4, lt]; rfl, by rw [hM4]; exact AL_take hR1.2.1.2 _⟩) ?_
    obtain ⟨o1, o2, o3, o4, o5, o6, o7⟩ := OKS_mono hO (N' := N + 1) (by omega)
    exact ⟨o1, ⟨by rw [List.length_take]; omega, fun x hx => o2.2 x (List.mem_of_mem_take hx)⟩, o3, o4, o5, o6, o7⟩
  · intro a; omega
theorem I_fuse {v N : Int} {M : zMem} (h : Inv N M) (hN : N ≤ 1000) (hv : inR v) : T_X9_fuse v (fun r M1 => T_X10_fuse v (fun r' M2 => G N r r' M2) M1) M := by
  obtain ⟨tr, t, s, fl, D, u, H, ps, hC, hR, hO⟩ := h
  unfold T_X9_fuse
  refine ⟨fun q M2 hM2 => ?_, fun q => ?_⟩
  · have F2 : Fr (fun k => k = 65) M M2 := by rw [hM2]; exact Fr_setS rfl
    have hC2 : CS M2 tr t s fl D (v, u.2) H ps := CS_Fu hC F2 (fun k _ h => by unfold cFuI; omega) ⟨by rw [hM2]; rfl, by rw [hM2]; exact hC.2.2.2.2.2.1.2⟩
    rw [hC.2.2.2.2.2.1.1]
    refine P_X9_accept (M := M2) hC2 ?_
    intro M3 hF3 hC3
    have hR3 := RT_cl (RT_cl hR F2 (fun k h => by omega)) hF3 (fun k h => by omega)
    unfold T_X10_fuse
    intro M1 hM1
    have hR1 := RT_576 hR3 hM1
    refine ⟨fun _ M4 hM4 => ?_, fun q2 => absurd q q2⟩
    have F4 : Fr (fun k => k = 587) M1 M4 := by rw [hM4]; exact Fr_setS rfl
    have hR4 : RT M4 tr t s fl D (v, u.2) H ps := RT_Fu hR1 F4 (fun k _ h => by unfold rFuI; omega) ⟨by rw [hM4]; rfl, by rw [hM4]; exact hR1.2.2.2.2.2.1.2⟩
    rw [hR1.2.2.2.2.2.1.1]
    refine tell_r (CS_rf (CS_576 hC3 hM1) F4 (fun k h => by omega)) hR4 ?_
    obtain ⟨o1, o2, o3, o4, o5, o6, o7⟩ := OKS_mono hO (N' := N + 1) (by omega)
    exact ⟨o1, o2, o3, o4, ⟨hv, q⟩, o6, o7⟩
  · apply P_X9_refuse (by omega) hO.2.2.1 (by omega) hC
    intro M3 hF3 hC3
    have hR3 := RT_cl hR hF3 (fun k h => by omega)
    unfold T_X10_fuse
    intro M1 hM1
    exact ⟨fun q2 => absurd q2 q, fun _ => ref_r hN (by omega) (CS_576 hC3 hM1) (RT_576 hR3 hM1) hO⟩
