def b4 (v : Int) : List Int := [zand (zshr v 24) 255, zand (zshr v 16) 255, zand (zshr v 8) 255, zand (zshr v 0) 255]
theorem b4_b (v : Int) : allB (b4 v) := by
  intro x hx
  unfold b4 at hx
  simp only [List.mem_cons, List.not_mem_nil, or_false] at hx
  rcases hx with h | h | h | h <;> rw [h, zand_255] <;> omega
theorem b4_get {v : Int} (k : Nat) (hk : k < 4) : (b4 v).take (k + 1) = (b4 v).take k ++ [gi (b4 v) k] := by
  rw [List.take_succ, gi_get (by exact hk)]; rfl
theorem b4_v {v : Int} (k : Nat) (hk : k < 4) : zand (zshr v (24 - 8 * k)) 255 = gi (b4 v) k := by
  match k, hk with
  | 0, _ => rfl
  | 1, _ => rfl
  | 2, _ => rfl
  | 3, _ => rfl
theorem b4_u {v : Int} (hv : inR v) (k : Nat) (hk : k < 4) : zand (zushr v (24 - 8 * k)) 255 = gi (b4 v) k := by
  match k, hk with
  | 0, _ => exact feed_24 hv
  | 1, _ => exact feed_16 hv
  | 2, _ => exact feed_8 hv
  | 3, _ => exact feed_0 hv
theorem P_X9_addFour {v : Int} {t : List Int} {Q : zMem → Prop} {M : zMem} (hT : cTp M t) (hl : t.length + 4 ≤ 400) (hv : inR v) (hQ : ∀ M', Fr (fun k => k = 2 ∨ k = 3) M M' → cTp M' (t ++ b4 v) → Q M') : T_X9_addFour v Q M := by
  unfold T_X9_addFour T_X9_addFour_3
  apply zl1_rule (fun v2 M1 => ∃ k : Nat, k ≤ 4 ∧ v2 = 24 - 8 * k ∧ Fr (fun k => k = 2 ∨ k = 3) M M1 ∧ cTp M1 (t ++ (b4 v).take k)) (fun v2 _ => (v2 + 8).toNat)
  · intro X v2 M1 ⟨k, k1, k2, k3, k4⟩ hX
    have lk : ((t ++ (b4 v).take k).length : Int) = t.length + k := by
      rw [List.length_append, List.length_take]
      have : (b4 v).length = 4 := rfl
      omega
    have e3 := k4.1
    rw [lk] at e3
    rw [e3]
    refine ⟨fun q => ?_, fun q => ⟨fun q2 => by omega, fun _ => ⟨⟨by omega, by omega⟩, fun M3 hM3 => ?_⟩⟩⟩
    · have : k = 4 := by omega
      rw [this] at k4
      exact hQ M1 k3 k4
    · have e33 : M3.1 3 = t.length + k := by rw [hM3]; exact e3
      rw [e33]
      refine ⟨inR_mk (by omega) (by omega), fun M4 hM4 => ⟨inR_mk (by omega) (by omega), hX _ _ ⟨k + 1, by omega, by omega, ?_, ?_, ?_⟩ (by omega)⟩⟩
      · rw [hM4, hM3]; exact Fr_trans k3 (Fr_trans (Fr_setA (Or.inl rfl)) (Fr_setS (Or.inr rfl)))
      · rw [b4_get k (by omega), ← List.append_assoc, len_snoc, lk, hM4]; rfl
      · have e4 : M4.2 2 = upI (M1.2 2) (t.length + k) (gi (b4 v) k) := by
          rw [hM4, setS_2, hM3, setA_2, if_pos rfl, k2, b4_u hv k (by omega)]
        rw [e4, b4_get k (by omega), ← List.append_assoc]
        exact AL_snoc k4.2 (by omega)
  · exact ⟨0, by omega, by omega, Fr_refl M, by rw [List.take_zero, List.append_nil]; exact hT⟩
theorem P_X10_types {v : Int} {t : List Int} {Q : zMem → Prop} {M : zMem} (hT : rTp M t) (hl : t.length + 4 ≤ 400) (hQ : ∀ M', Fr (fun k => k = 584 ∨ k = 585) M M' → rTp M' (t ++ b4 v) → Q M') : T_X10_types v Q M := by
  unfold T_X10_types T_X10_types_3
  apply zl1_rule (fun v2 M1 => ∃ k : Nat, k ≤ 4 ∧ v2 = 24 - 8 * k ∧ Fr (fun k => k = 584 ∨ k = 585) M M1 ∧ rTp M1 (t ++ (b4 v).take k)) (fun v2 _ => (v2 + 8).toNat)
  · intro X v2 M1 ⟨k, k1, k2, k3, k4⟩ hX
    have lk : ((t ++ (b4 v).take k).length : Int) = t.length + k := by
      rw [List.length_append, List.length_take]
      have : (b4 v).length = 4 := rfl
      omega
    have e3 := k4.1
    rw [lk] at e3
    rw [e3]
    refine ⟨fun q => ?_, fun q => ⟨⟨by omega, by omega⟩, fun M3 hM3 => ?_⟩⟩
    · have : k = 4 := by omega
      rw [this] at k4
      exact hQ M1 k3 k4
    · have e33 : M3.1 585 = t.length + k := by rw [hM3]; exact e3
      rw [e33]
      refine ⟨inR_mk (by omega) (by omega), fun M4 hM4 => ⟨inR_mk (by omega) (by omega), hX _ _ ⟨k + 1, by omega, by omega, ?_, ?_, ?_⟩ (by omega)⟩⟩
      · rw [hM4, hM3]; exact Fr_trans k3 (Fr_trans (Fr_setA (Or.inl rfl)) (Fr_setS (Or.inr rfl)))
      · rw [b4_get k (by omega), ← List.append_assoc, len_snoc, lk, hM4]; rfl
      · have e4 : M4.2 584 = upI (M1.2 584) (t.length + k) (gi (b4 v) k) := by
          rw [hM4, setS_2, hM3, setA_2, if_pos rfl, k2, b4_v k (by omega)]
        rw [e4, b4_get k (by omega), ← List.append_assoc]
        exact AL_snoc k4.2 (by omega)
  · exact ⟨0, by omega, by omega, Fr_refl M, by rw [List.take_zero, List.append_nil]; exact hT⟩
theorem b4_len (t : List Int) (v : Int) : (t ++ b4 v).length = t.length + 4 := by rw [List.length_append]; rfl
theorem I_feed {a b c d e N : Int} {M : zMem} (h : Inv N M) (ha : inR a) (hb : inR b) (hc : inR c) (hd : inR d) (he : inR e) : T_X9_feed a b c d e (fun r M1 => T_X10_feed a b c d e (fun r' M2 => G N r r' M2) M1) M := by
  obtain ⟨tr, t, s, fl, D, u, H, ps, hC, hR, hO⟩ := h
  have hl := hO.2.1
  unfold T_X9_feed
  rw [hC.2.1.1]
  refine ⟨inR_mk (by omega) (by omega), fun q => ?_, fun q => ?_⟩
  · apply P_X9_addFour hC.2.1 (by omega) ha
    intro A1 FA1 T1
    apply P_X9_addFour T1 (by rw [b4_len]; omega) hb
    intro A2 FA2 T2
    apply P_X9_addFour T2 (by rw [b4_len, b4_len]; omega) hc
    intro A3 FA3 T3
    apply P_X9_addFour T3 (by rw [b4_len, b4_len, b4_len]; omega) hd
    intro A4 FA4 T4
    apply P_X9_addFour T4 (by rw [b4_len, b4_len, b4_len, b4_len]; omega) he
    intro A5 FA5 T5
    have FA := Fr_trans (Fr_trans (Fr_trans (Fr_trans FA1 FA2) FA3) FA4) FA5
    rw [T5.1]
    have hCA := CS_Tp hC FA (fun k _ h => by unfold cTpI; omega) T5
    have hRA := RT_cl hR FA (fun k h => by omega)
    unfold T_X10_feed
    intro M1 hM1
    have hR1 := RT_576 hRA hM1
    have hC1 := CS_576 hCA hM1
    rw [hR1.2.1.1]
    refine ⟨fun _ => ?_, fun q2 => by omega⟩
    apply P_X10_types hR1.2.1 (by omega)
    intro B1 FB1 U1
    apply P_X10_types U1 (by rw [b4_len]; omega)
    intro B2 FB2 U2
    apply P_X10_types U2 (by rw [b4_len, b4_len]; omega)
    intro B3 FB3 U3
    apply P_X10_types U3 (by rw [b4_len, b4_len, b4_len]; omega)
    intro B4 FB4 U4
    apply P_X10_types U4 (by rw [b4_len, b4_len, b4_len, b4_len]; omega)
    intro B5 FB5 U5
    have FB := Fr_trans (Fr_trans (Fr_trans (Fr_trans FB1 FB2) FB3) FB4) FB5
    rw [U5.1]
    refine G_in (CS_rf hC1 FB (fun k h => by omega)) (RT_Tp hR1 FB (fun k _ h => by unfold rTpI; omega) U5) ?_
    obtain ⟨o1, o2, o3, o4, o5, o6, o7⟩ := OKS_mono hO (N' := N + 1) (by omega)
    refine ⟨o1, ⟨by rw [b4_len, b4_len, b4_len, b4_len, b4_len]; omega, ?_⟩, o3, o4, o5, o6, o7⟩
    exact allB_app.mpr ⟨allB_app.mpr ⟨allB_app.mpr ⟨allB_app.mpr ⟨allB_app.mpr ⟨o2.2, b4_b _⟩, b4_b _⟩, b4_b _⟩, b4_b _⟩, b4_b _⟩
  · unfold T_X10_feed
    intro M1 hM1
    have hR1 := RT_576 hR hM1
    rw [hR1.2.1.1]
    exact ⟨fun q2 => by omega, fun _ => G_576 hC hR hO hM1 rfl⟩
-- undone
theorem I_undo {N : Int} {M : zMem} (h : Inv N M) (hN : N ≤ 1000) : T_X9_undo (fun r M1 => T_X10_undo (fun r' M2 => G N r r' M2) M1) M := by
  obtain ⟨tr, t, s, fl, D, u, H, ps, hC, hR, hO⟩ := h
  have hP := hC.2.2.2.2.2.2.2
  have hPR := hR.2.2.2.2.2.2.2
  unfold T_X9_undo
  rw [hP.1]
  cases ps with
  | nil =>
    refine ⟨fun q => absurd rfl q, fun _ => ?_⟩
    apply P_X9_refuse (by omega) hO.2.2.1 (by omega) hC
    intro M3 hF3 hC3
    have hR3 := RT_cl hR hF3 (fun k h => by omega)
    unfold T_X10_undo
    intro M1 hM1
    have hR1 := RT_576 hR3 hM1
    rw [hR1.2.2.2.2.2.2.2.1]
    exact ⟨fun q => absurd rfl q, fun _ => ref_r hN (by omega) (CS_576 hC3 hM1) hR1 hO⟩
  | cons m ps =>
    have hm := hO.2.2.2.2.2.2 m List.mem_cons_self
    refine ⟨fun _ => ?_, fun q => by rw [List.length_cons] at q; omega⟩
    apply P_X7_takeBack hP (DOK_d hm.1)
    intro M3 hF3 hP3 a1 a2 a3
    unfold T_X3_giveUpAll
    intro M4 hM4
    have F4 : Fr (fun k => k = 448) M3 M4 := by rw [hM4]; exact Fr_setS rfl
    have hC4 : CS M4 tr t s fl (m.2.2.1, m.2.2.2, m.2.1) u ([], H.2) ps := by
      obtain ⟨c1, c2, c3, c4, c5, c6, c7, c8⟩ := hC
      have FF : Fr (fun k => k = 1 ∨ k = 64 ∨ k = 66 ∨ k = 512 ∨ k = 514 ∨ k = 448) M M4 := Fr_trans (Fr_mono hF3 (fun k h => by omega)) (Fr_mono F4 (fun k h => by omega))
      refine ⟨cTr_fr c1 FF (fun k h => by unfold cTrI at h; omega), cTp_fr c2 FF (fun k h => by unfold cTpI at h; omega), cSt_fr c3 FF (fun k h => by unfold cStI at h; omega), cFl_fr c4 FF (fun k h => by unfold cFlI at h; omega), cDk_fr (D := (m.2.2.1, m.2.2.2, m.2.1)) ⟨a1, a2, a3⟩ F4 (fun k h => by unfold cDkI at h; omega), cFu_fr c6 FF (fun k h => by unfold cFuI at h; omega), ⟨⟨by rw [hM4]; rfl, AL_nil _ _⟩, ?_⟩, cPa_fr hP3 F4 (fun k h => by unfold cPaI at h; omega)⟩
      rw [F4.1 449 (by decide), hF3.1 449 (by decide)]; exact c7.2
    refine P_X9_accept (M := M4) hC4 ?_
    intro M5 hF5 hC5
    have FA : Fr (fun k => k < 576) M M5 := Fr_trans (Fr_trans (Fr_mono hF3 (fun k h => by omega)) (Fr_mono F4 (fun k h => by omega))) (Fr_mono hF5 (fun k h => by omega))
    have hR5 := RT_cl hR FA (fun k h => by omega)
    unfold T_X10_undo
    intro M8 hM8
    have hR8 := RT_576 hR5 hM8
    have hC8 := CS_576 hC5 hM8
    rw [hR8.2.2.2.2.2.2.2.1]
    refine ⟨fun _ => ?_, fun q => by rw [List.length_cons] at q; omega⟩
    apply P_X10_undo_21 hR8.2.2.2.2.2.2.2
    intro M9 hF9 hP9 b1 b2 b3 b4
    have hR9 : RT M9 tr t s fl (m.2.2.1, m.2.2.2, m.2.1) u ([], H.2) ps := by
      obtain ⟨c1, c2, c3, c4, c5, c6, c7, c8⟩ := hR8
      refine ⟨rTr_fr c1 hF9 (fun k h => by unfold rTrI at h; omega), rTp_fr c2 hF9 (fun k h => by unfold rTpI at h; omega), rSt_fr c3 hF9 (fun k h => by unfold rStI at h; omega), rFl_fr c4 hF9 (fun k h => by unfold rFlI at h; omega), ⟨b1, b2, b3⟩, rFu_fr c6 hF9 (fun k h => by unfold rFuI at h; omega), ⟨⟨by rw [b4]; rfl, AL_nil _ _⟩, ?_⟩, hP9⟩
      rw [hF9.1 613 (by decide)]; exact c7.2
    refine tell_r (CS_rf hC8 hF9 (fun k h => by omega)) hR9 ?_
    obtain ⟨o1, o2, o3, o4, o5, o6, o7⟩ := OKS_mono hO (N' := N + 1) (by omega)
    have := o1.2.2.2.2
    exact ⟨o1, o2, o3, hm, o5, ⟨by show ((([] : List Int).length : Nat) : Int) ≤ _; rw [List.length_nil]; omega, o6.2⟩, fun x hx => o7 x (List.mem_cons_of_mem _ hx)⟩
