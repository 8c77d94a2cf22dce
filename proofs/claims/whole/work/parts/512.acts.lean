noncomputable def holdS (lim : Nat) (H : List Int × Int) (p : Int) : List Int × Int := (hldF lim H.1 p, H.2 + hldN H.1 p)
section
variable {tr : Int → Int} {t : List Int} {s : Int × (Int → Int)} {fl : Int} {D : (Int → Int) × Lrn × Int} {u : Int × Int} {H : List Int × Int} {ps : List Mom}
theorem lim_ex {N : Int} (hO : OKS N tr t s D u H ps) : ∃ lim : Nat, tr 4 = lim ∧ (1 ≤ lim ∧ lim ≤ 4) ∧ H.1.length ≤ lim := by
  have h4 := hO.1.2.2.2.2
  have hh := hO.2.2.2.2.2.1.1
  exact ⟨(tr 4).toNat, by omega, by omega, by omega⟩
theorem OKS_hold {N : Int} {lim : Nat} {p : Int} (hO : OKS N tr t s D u H ps) (hl : tr 4 = lim) (h1 : 1 ≤ lim) (hx : ∃ k, isIx p k H.1) : OKS (N + 1) tr t s D u (holdS lim H p) ps := by
  obtain ⟨o1, o2, o3, o4, o5, o6, o7⟩ := OKS_mono hO (N' := N + 1) (by omega)
  have h6 := hO.2.2.2.2.2.1
  have hlen := hld_len (lim := lim) (by omega) h1 hx
  have hn : 0 ≤ hldN H.1 p ∧ hldN H.1 p ≤ 1 := by unfold hldN; split <;> omega
  refine ⟨o1, o2, o3, o4, o5, ⟨?_, ?_⟩, o7⟩
  · show (((hldF lim H.1 p).length : Nat) : Int) ≤ _
    omega
  · show 0 ≤ H.2 + hldN H.1 p ∧ H.2 + hldN H.1 p ≤ N + 1
    omega
theorem P_hold {p N : Int} {lim : Nat} {Q : zMem → Prop} {M : zMem} (hN : N ≤ 1000) (hC : CS M tr t s fl D u H ps) (hO : OKS N tr t s D u H ps) (hl : tr 4 = lim) (h1 : 1 ≤ lim ∧ lim ≤ 4) (hQ : (∃ k, isIx p k H.1) → ∀ M', Fr fHC M M' → CS M' tr t s fl D u (holdS lim H p) ps → Q M') : T_X3_hold p (M.2 0 4) Q M := by
  have e4 : M.2 0 4 = lim := by rw [hC.1 4 (by omega) (by omega)]; exact hl
  have hh := hO.2.2.2.2.2.1
  have hH := hC.2.2.2.2.2.2.1
  rw [e4]
  apply P_X3_hold hH.1 (by omega) h1 (by rw [hH.2]; omega)
  intro hx M' hF' hH' h449
  exact hQ hx M' hF' (CS_He hC hF' (fun k _ h => by unfold fHC at h; unfold cHeI; omega) ⟨hH', by rw [h449, hH.2]; rfl⟩)
theorem P_uses {key i N : Int} {lim : Nat} {Q : zMem → Prop} {M : zMem} (hN : N ≤ 1000) (hR : RT M tr t s fl D u H ps) (hO : OKS N tr t s D u H ps) (hW : WFz D.1) (hOd : IsOrd D.1 key i) (hl : tr 4 = lim) (h1 : 1 ≤ lim ∧ lim ≤ 4) (hQ : ∀ M', Fr fHR M M' → RT M' tr t s fl D u (holdS lim H (D.1 (641 + 2 * i))) ps → Q M') : T_X10_uses key Q M := by
  have hu := hW.1.1
  have ag := agr_r hR
  obtain ⟨⟨r1, r2⟩, ⟨r3, r4⟩, _, _⟩ := rd hW ag hOd.1
  have e4 : M.2 579 4 = lim := by rw [hR.1.1 4 (by omega) (by omega)]; exact hl
  have hh := hO.2.2.2.2.2.1
  have hH := hR.2.2.2.2.2.2.1
  apply P_X10_uses r1 (IsOrd_agr (agr_symm ag) hu.2 hOd) r3 hH.1 (by omega) h1 e4 (by rw [hH.2]; omega)
  intro _ M' hF' hH' h613
  exact hQ M' hF' (RT_He hR hF' (fun k _ h => by unfold fHR at h; unfold rHeI; omega) ⟨hH', by rw [h613, hH.2]; rfl⟩)
theorem ref_r3 {N v : Int} {M : zMem} (hN : N ≤ 1000) (hv : -7 ≤ v ∧ v ≤ -1) (hC : CS M tr t (rfS v s) fl D u H ps) (hR : RT M tr t s fl D u H ps) (hs : ∀ j, 0 ≤ j → j < 7 → 0 ≤ s.2 j ∧ s.2 j ≤ N) (hO : OKS (N + 1) tr t s D u H ps) : T_X10_refuses v (fun r' M2 => G N v r' M2) M := by
  apply P_X10_refuses hv hs (by omega) hR
  intro M' hF' hR'
  refine G_in (CS_rf hC hF' (fun k h => by omega)) hR' ?_
  obtain ⟨h1, h2, h3, h4, h5, h6, h7⟩ := hO
  refine ⟨h1, h2, fun j a b => ?_, h4, h5, h6, h7⟩
  show 0 ≤ upI s.2 (-1 - v) (s.2 (-1 - v) + 1) j ∧ upI s.2 (-1 - v) (s.2 (-1 - v) + 1) j ≤ N + 1
  have := hs j a b
  have := hs (-1 - v) (by omega) (by omega)
  unfold upI
  split <;> omega
end
theorem I_fetch {v N : Int} {M : zMem} (h : Inv N M) (hN : N ≤ 1000) : T_X9_fetch v (fun r M1 => T_X10_fetch v (fun r' M2 => G N r r' M2) M1) M := by
  obtain ⟨tr, t, s, fl, D, u, H, ps, hC, hR, hO⟩ := h
  have a582 : alen 582 = 1339 := alen_582
  have hd := DOK_d hO.2.2.2.1.1
  have hs := hO.2.2.1
  have ec := hC.2.2.2.2.1.2.2
  unfold T_X9_fetch
  apply P_X9_isByte
  · intro hk
    refine ⟨fun _ => ?_, fun q => by omega⟩
    rw [ec]
    refine ⟨fun hdn => ?_, fun hdn => ?_⟩
    · obtain ⟨hW, _⟩ := OK_z hO hdn
      have hu := hW.1.1
      have hOd := od_ok hW.1 v
      obtain ⟨i, hi⟩ : ∃ i, i = od D.1 v := ⟨_, rfl⟩
      rw [← hi] at hOd
      have hRk := recI_ok hW hOd.1
      obtain ⟨lim, hl, h1, hlen⟩ := lim_ex hO
      apply P_X9_pageFor hW (agr_c hC) hOd
      refine ⟨⟨by omega, by omega⟩, ?_⟩
      apply P_hold hN hC hO hl h1
      intro hx M11 hF11 hC11
      have hO' := OKS_hold hO hl h1.1 hx
      have hR11 := RT_cl hR hF11 (fun k h => by unfold fHC at h; omega)
      apply P_load5 hW (agr_c hC11) hOd.1
      intro M12 hF12 hT12
      have hC12 := CS_sc hC11 hF12 fLd5_sc
      have hR12 := RT_cl hR11 hF12 fLd5_cl
      -- the reference up to the records
      have rf : ∀ (K : Int → zMem → Prop) (M3 : zMem), RT M3 tr t s fl D u H ps → (∀ M13, Fr (fun k => k = 576 ∨ fHR k ∨ fLr k) M3 M13 → RT M13 tr t s fl D u (holdS lim H (D.1 (641 + 2 * i))) ps → tabR M13 (recI D.1 i) → ((0 : Int) ≤ v ∧ v < 256) ∧ ((¬ (M13.2 596 v) = (-1) → (((0 : Int) ≤ v ∧ v < 256) ∧ (∀ M15 : zMem, M15 = setS M13 585 (M13.2 596 v) → T_X10_fetch_89 v K 0 M15))) ∧ ((M13.2 596 v) = (-1) → (T_X10_refuses (-2) (fun y16 M17 => K y16 M17) M13)))) → T_X10_fetch v K M3 := by
        intro K M3 hR3 hK
        unfold T_X10_fetch
        intro M5 hM5
        have hR5 := RT_576 hR3 hM5
        have F5 : Fr (fun k => k = 576 ∨ fHR k ∨ fLr k) M3 M5 := by rw [hM5]; exact Fr_setS (Or.inl rfl)
        apply P_X10_isKey
        · intro _
          refine ⟨fun _ => ?_, fun q => by omega⟩
          apply P_X10_isDown hR5.2.2.2.2.1.2.2 hd
          refine ⟨fun _ => ?_, fun q => absurd hdn q⟩
          apply P_uses hN hR5 hO hW hOd hl h1
          intro M10 hF10 hR10
          have ag := agr_r hR10
          obtain ⟨⟨r1, r2⟩, ⟨r3, r4⟩, _, _⟩ := rd hW ag hOd.1
          apply P_X10_placeFor (by omega) r1 (IsOrd_agr (agr_symm ag) hu.2 hOd)
          apply P_X10_numberOf (by omega) ⟨hOd.1.1, by have := hOd.1.2; omega⟩
          rw [r3]
          apply P_lays582 hW ag hOd.1
          intro M13 hF13 hT13
          exact hK M13 (Fr_trans (Fr_trans F5 (Fr_mono hF10 (fun k h => Or.inr (Or.inl h)))) (Fr_mono hF13 (fun k h => Or.inr (Or.inr h)))) (RT_sc hR10 hF13 fLr_sc) hT13
        · intro q; exact absurd hk q
      have frf : ∀ k, (k = 576 ∨ fHR k ∨ fLr k) → 576 ≤ k ∧ k < 640 := fun k h => by
        rcases h with h | h | h
        · omega
        · unfold fHR at h; omega
        · exact fLr_rf k h
      apply P_X8_sizeOf hT12 hRk
      · intro x hx8
        have hxo := hRk v x hx8
        refine ⟨fun _ => ?_, fun q => by omega⟩
        unfold T_X9_fetch_91
        apply zl1_rule (fun v4 M1 => (0 ≤ v4 ∧ v4 ≤ x.length) ∧ Fr (fun k => k = 2) M12 M1 ∧ ∀ j, 0 ≤ j → j < v4 → M1.2 2 j = gi x j) (fun v4 _ => ((x.length : Int) - v4).toNat)
        · intro X v4 M1 ⟨k1, k2, k3⟩ hX
          refine ⟨fun q M2 hM2 => ?_, fun q => ?_⟩
          · have F2 : Fr (fun k => k = 2 ∨ k = 3) M12 M2 := by rw [hM2]; exact Fr_trans (Fr_mono k2 (fun k h => Or.inl h)) (Fr_setS (Or.inr rfl))
            have hC2 : CS M2 tr x s fl D u (holdS lim H (D.1 (641 + 2 * i))) ps := CS_Tp hC12 F2 (fun k _ h => by unfold cTpI; omega) ⟨by rw [hM2]; rfl, fun j j0 j1 => by rw [Int.zero_add, hM2]; exact k3 j j0 (by omega)⟩
            refine P_X9_accept (M := M2) hC2 ?_
            intro M4 hF4 hC4
            have hR4 := RT_cl (RT_cl hR12 F2 (fun k h => by omega)) hF4 (fun k h => by omega)
            apply rf _ M4 hR4
            intro M13 hF13 hR13 hT13
            have hC13 := CS_rf hC4 hF13 frf
            have e596 : M13.2 596 v = x.length := by rw [tabR_sz hT13 hk, szR_some hx8]
            rw [e596]
            refine ⟨hk, fun _ => ⟨hk, fun M15 hM15 => ?_⟩, fun q2 => by omega⟩
            have e585 : M15.1 585 = x.length := by rw [hM15]; rfl
            have F15 : Fr (fun k => k = 584 ∨ k = 585) M13 M15 := by rw [hM15]; exact Fr_setS (Or.inr rfl)
            unfold T_X10_fetch_89
            apply zl1_rule (fun v2 B1 => (0 ≤ v2 ∧ v2 ≤ x.length) ∧ Fr (fun k => k = 584 ∨ k = 585) M13 B1 ∧ B1.1 585 = x.length ∧ ∀ j, 0 ≤ j → j < v2 → B1.2 584 j = gi x j) (fun v2 _ => ((x.length : Int) - v2).toNat)
            · intro X2 v2 B1 ⟨l1, l2, l3, l4⟩ hX2
              rw [l3]
              have e597 : B1.2 597 = M13.2 597 := l2.2 597 (by decide)
              refine ⟨fun q2 => ?_, fun q2 => ⟨inR_mk (by omega) (by omega), inR_mk (by omega) (by omega), ⟨by omega, by omega⟩, ⟨by omega, by omega⟩, fun B4 hB4 => ⟨inR_mk (by omega) (by omega), hX2 _ _ ⟨by omega, ?_, ?_, ?_⟩ (by omega)⟩⟩⟩
              · refine tell_r (CS_rf hC13 l2 (fun k h => by omega)) (RT_Tp hR13 l2 (fun k _ h => by unfold rTpI; omega) ⟨l3, fun j j0 j1 => by rw [Int.zero_add]; exact l4 j j0 (by omega)⟩) ?_
                obtain ⟨o1, o2, o3, o4, o5, o6, o7⟩ := hO'
                exact ⟨o1, ⟨by omega, hxo.2.2⟩, o3, o4, o5, o6, o7⟩
              · rw [hB4]; exact Fr_trans l2 (Fr_setA (Or.inl rfl))
              · rw [hB4]; exact l3
              · intro j j0 j1
                have e4 : B4.2 584 = upI (B1.2 584) v2 (M13.2 597 (8 * v + v2)) := by rw [hB4, setA_2, if_pos rfl, e597]
                rw [e4]
                unfold upI
                by_cases q3 : j = v2
                · rw [if_pos q3, q3]
                  exact ((hT13 v hk.1 hk.2).2 x hx8).2 v2 l1.1 (by omega)
                · rw [if_neg q3]; exact l4 j j0 (by omega)
            · exact ⟨by omega, F15, e585, fun j a b => by omega⟩
          · have hT1 : tabC 5 M1 (recI D.1 i) := by
              unfold tabC
              rw [k2.2 (64 * 5 + 2) (by decide), k2.2 (64 * 5 + 3) (by decide)]; exact hT12
            apply P_X8_byteOf hT1 hRk
            · intro x' hx' j0 j1
              have : x' = x := by rw [hx8] at hx'; exact (Option.some.inj hx').symm
              rw [this]
              refine ⟨⟨by omega, by omega⟩, fun M6 hM6 => ⟨inR_mk (by omega) (by omega), hX _ _ ⟨by omega, ?_, ?_⟩ (by omega)⟩⟩
              · rw [hM6]; exact Fr_trans k2 (Fr_setA rfl)
              · intro j j0 j1
                have e6 : M6.2 2 = upI (M1.2 2) v4 (gi x v4) := by rw [hM6, setA_2, if_pos rfl]
                rw [e6]
                unfold upI
                by_cases q3 : j = v4
                · rw [if_pos q3, q3]
                · rw [if_neg q3]; exact k3 j j0 (by omega)
            · intro hn; exact absurd ⟨k1.1, by omega⟩ (hn x hx8)
        · exact ⟨by omega, Fr_refl M12, fun j a b => by omega⟩
      · intro hnone
        refine ⟨fun q => absurd rfl q, fun _ => ?_⟩
        apply P_X9_refuse (by omega) hs (by omega) hC12
        intro M16 hF16 hC16
        have hR16 := RT_cl hR12 hF16 (fun k h => by omega)
        apply rf _ M16 hR16
        intro M13 hF13 hR13 hT13
        have e596 : M13.2 596 v = -1 := by rw [tabR_sz hT13 hk, szR_none hnone]
        rw [e596]
        exact ⟨hk, fun q => absurd rfl q, fun _ => ref_r3 hN (by omega) (CS_rf hC16 hF13 frf) hR13 hs hO'⟩
    · apply P_X9_refuse (by omega) hs (by omega) hC
      intro M3 hF3 hC3
      have hR3 := RT_cl hR hF3 (fun k h => by omega)
      unfold T_X10_fetch
      intro M5 hM5
      have hR5 := RT_576 hR3 hM5
      apply P_X10_isKey
      · intro _
        refine ⟨fun _ => ?_, fun q => by omega⟩
        apply P_X10_isDown hR5.2.2.2.2.1.2.2 hd
        exact ⟨fun q => absurd q hdn, fun _ => ref_r hN (by omega) (CS_576 hC3 hM5) hR5 hO⟩
      · intro q; exact absurd hk q
  · intro hk
    refine ⟨fun q => absurd rfl q, fun _ => ?_⟩
    apply P_X9_refuse (by omega) hs (by omega) hC
    intro M3 hF3 hC3
    have hR3 := RT_cl hR hF3 (fun k h => by omega)
    unfold T_X10_fetch
    intro M5 hM5
    apply P_X10_isKey
    · intro q; exact absurd q hk
    · intro _
      exact ⟨fun q => absurd rfl q, fun _ => ref_r hN (by omega) (CS_576 hC3 hM5) (RT_576 hR3 hM5) hO⟩
