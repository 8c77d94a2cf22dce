theorem fCa_sc : ∀ k, fCa k → k = 4 ∨ k = 8 ∨ k = 67 ∨ (128 ≤ k ∧ k < 448) := fun k h => by unfold fCa fLd fTb fUn fTy fPb fPk at h; omega
theorem fCz_sc : ∀ k, fCz k → k = 576 ∨ k = 583 ∨ (589 ≤ k ∧ k ≤ 606) ∨ k = 614 ∨ k = 615 := fun k h => by unfold fCz fCq fCr fLr fTr fUr fRp at h; omega
def bL (n : Nat) : Int → Int := fun p => if p < n then 1 else 0
theorem bL_01 (n : Nat) (p : Int) : bL n p = 0 ∨ bL n p = 1 := by unfold bL; split <;> omega
theorem I_compact {N : Int} {M : zMem} (h : Inv N M) (hN : N ≤ 1000) : T_X9_compact (fun r M1 => T_X10_compact (fun r' M2 => G N r r' M2) M1) M := by
  obtain ⟨tr, t, s, fl, ⟨f, L, d⟩, u, H, ps, hC, hR, hO⟩ := h
  have hs := hO.2.2.1
  have hg := hO.1
  have hLk : lrnOK L := hO.2.2.2.1.2
  have hd := DOK_d hO.2.2.2.1.1
  have ho2 := hO.2.1
  have hh := hO.2.2.2.2.2.1
  have h4 := hg.2.2.2.2
  unfold T_X9_compact
  rw [hC.2.2.2.2.1.2.2]
  refine ⟨fun hdn => ?_, fun hdn => ?_⟩
  · have hdn : d = 0 := hdn
    subst hdn
    obtain ⟨hW, h661⟩ : WFz f ∧ f 661 = 0 := OK_z hO rfl
    have hu := hW.1.1
    have hA : ∀ i, 0 ≤ i → i < f 640 → PgX f i (wt f i).1 (wt f i).2.1 (wt f i).2.2 := fun i a b => (wt_ok hW ⟨a, b⟩).1
    obtain ⟨rr, hrr⟩ : ∃ rr, rr = allF (wt f) (f 640).toNat := ⟨_, rfl⟩
    obtain ⟨R, hRR⟩ : ∃ R, R = cps tr (120 - L.1) (rI rr 0 256) := ⟨_, rfl⟩
    have hRok : RecOK rr := by rw [hrr]; exact (allF_ok hW.1 hA _ (by omega)).1
    have hL1 := hLk.1
    obtain ⟨c1, c2, c3, c4⟩ := cps_ok (g := tr) (full := 120 - L.1) (by omega) (rI rr 0 256)
    rw [← hRR] at c1 c2 c3 c4
    -- the reference up to the draft
    have rdr : ∀ (K : Int → zMem → Prop) (M3 : zMem), RT M3 tr t s fl (f, L, 0) u H ps → (10 < R.length → ∀ M7, Fr (fun k => 576 ≤ k ∧ k < 640) M3 M7 → RT M7 tr t s fl (f, L, 0) u H ps → T_X10_refuses (-5) (fun y M => K y M) M7) → (R.length ≤ 10 → ∀ M7, Fr (fun k => 576 ≤ k ∧ k < 640) M3 M7 → RT M7 tr t s fl (f, L, 0) u H ps → agr (M7.2 583) (cpN f R R.length) → Lat (M7.2 583) 661 L → (∀ p, 0 ≤ p → p < 10 → bt (M7.1 606) p = bL R.length p) → M7.1 600 = R.length → T_X10_keeps 5 (fun M4 => T_X10_beginsWriting (fun M5 => T_X10_throughJournal (fun M6 => ∀ M7 : zMem, M7 = setS M6 612 0 → T_X10_ends (M7.1 600) (fun y8 M9 => K y8 M9) M7) M5) M4) M7) → T_X10_compact K M3 := by
      intro K M3 hR3 k0 k1
      unfold T_X10_compact
      intro M1 hM1
      have F1 : Fr (fun k => 576 ≤ k ∧ k < 640) M3 M1 := by rw [hM1]; exact Fr_setS (by omega)
      have hR1 := RT_576 hR3 hM1
      apply P_X10_isDown hR1.2.2.2.2.1.2.2 hd
      refine ⟨fun _ => ?_, fun q => absurd rfl q⟩
      apply P_X10_drafts
      intro M10 hF10 d1 d2
      have hR10 := RT_sc hR1 hF10 (fun k h => by unfold fDr at h; omega)
      have FF10 : Fr (fun k => 576 ≤ k ∧ k < 640) M3 M10 := Fr_trans F1 (Fr_mono hF10 (fun k h => by unfold fDr at h; omega))
      have ag10 : agr (M10.2 583) f := fun j a b => by rw [d1 j a (by omega)]; exact agr_r hR1 j a b
      have hgT : agT (M10.2 579) tr := hR10.1.1
      have hLat10 : Lat (M10.2 583) 661 L := by
        have := hR1.2.2.2.2.1.2.1
        unfold Lat at this ⊢
        rw [d1 661 (by omega) (by omega), d1 (661 + 1) (by omega) (by omega), d1 (661 + 2) (by omega) (by omega), d1 (661 + 3) (by omega) (by omega)]
        exact this
      have eR : cps (M10.2 579) (120 - L.1) (rI (allF (wt f) (f 640).toNat) 0 256) = R := by rw [cps_agT hgT, ← hrr, hRR]
      apply P_X10_compactL (W := wt f) ag10 (WFz_i hW) hA (trmOK_agT (agT_symm hgT) hg) hLk hLat10
      · rw [eR]
        intro hc M7 hF7
        exact k0 hc M7 (Fr_trans FF10 (Fr_mono hF7 (fun k h => by have := fCz_sc k h; omega))) (RT_sc hR10 hF7 fCz_sc)
      · rw [eR]
        intro hc M7 hF7 x1 x2 x3 x4 x5
        exact k1 hc M7 (Fr_trans FF10 (Fr_mono hF7 (fun k h => by have := fCz_sc k h; omega))) (RT_sc hR10 hF7 fCz_sc) x2 x1 x4 x5
    apply P_X1_begin
    intro M2 hF2 b1 b2 b3 b4
    have hC2 := CS_sc hC hF2 (fun k h => by unfold fBg at h; omega)
    have hR2 := RT_cl hR hF2 (fun k h => by unfold fBg at h; omega)
    have ag2 : agr (M2.2 128) f := agr_trans b1 (agr_c hC)
    have hgT : agT (M2.2 133) tr := fun j a b => by rw [b3 j a b]; exact hC.1 j a b
    have hLat2 : Lat (M2.2 129) 0 L := by
      have := hC.2.2.2.2.1.2.1
      unfold Lat at this ⊢
      rw [b2 0 (by omega) (by omega), b2 (0 + 1) (by omega) (by omega), b2 (0 + 2) (by omega) (by omega), b2 (0 + 3) (by omega) (by omega)]
      exact this
    have eR : cps (M2.2 133) (120 - L.1) (rI (allF (wt f) (f 640).toNat) 0 256) = R := by rw [cps_agT hgT, ← hrr, hRR]
    apply P_X1_compactAll (W := wt f) ag2 (WFz_i hW) hA (trmOK_agT (agT_symm hgT) hg) hLk hLat2
    · rw [eR]
      intro hc M4 hF4
      have hC4 := CS_sc hC2 hF4 fCa_sc
      have hR4 := RT_cl hR2 hF4 (fun k h => by have := fCa_sc k h; omega)
      refine ⟨fun q => by omega, fun _ => ?_⟩
      apply P_X9_refuse (by omega) hs (by omega) hC4
      intro M9 hF9 hC9
      apply rdr _ M9 (RT_cl hR4 hF9 (fun k h => by omega))
      · intro _ M7 hF7 hR7
        exact ref_r hN (by omega) (CS_rf hC9 hF7 (fun k h => h)) hR7 hO
      · intro h; omega
    · rw [eR]
      intro hc M4 hF4 y1 y2 y3
      have hC4 := CS_sc hC2 hF4 fCa_sc
      have hR4 := RT_cl hR2 hF4 (fun k h => by have := fCa_sc k h; omega)
      have hWF : WFz (cpN f R R.length) := WFz_cp hW.2.1 hRok c1 c2 hg c3 ⟨c4, hc⟩
      have hl10 := hWF.1.1
      obtain ⟨pg, hpg⟩ : ∃ pg, pg = pgsTo (bL R.length) 10 := ⟨_, rfl⟩
      have hdok : ∀ n, (n < (tj (cpN f R R.length) pg).length → DOK (apw f ((tj (cpN f R R.length) pg).take n)) 1) ∧ DOK (apw f (tj (cpN f R R.length) pg)) 0 := by
        intro n
        refine DOK_tj2 hW h661 hWF (fun p hp => ?_) (by rw [hpg]; exact pgsTo_len _ _) (fun j j0 j1 hj => ?_)
        · rw [hpg] at hp; exact (pgsTo_mem.mp hp).1
        · by_cases q : j < 64 * R.length
          · exact absurd ⟨by omega, by omega⟩ (hj (j / 64) (by
              rw [hpg]
              exact pgsTo_mem.mpr ⟨by omega, by unfold bL; rw [if_pos (by omega)]⟩))
          · unfold cpN
            rw [if_neg (by omega), if_neg (by omega), if_neg (by omega)]
      refine ⟨fun _ => ?_, fun q => by omega⟩
      have rfin : ∀ (K : Int → zMem → Prop) (M10 : zMem), RT M10 tr t s fl (f, L, 0) u H ps →
          (blw u.1 (tj (cpN f R R.length) pg).length → ∀ M2, Fr (fun k => 576 ≤ k ∧ k < 640) M10 M2 → RT M2 tr t (rfS (-7) s) fl (apw f ((tj (cpN f R R.length) pg).take (nwr u.1 (tj (cpN f R R.length) pg).length)), L, 1) (-1, nwr u.1 (tj (cpN f R R.length) pg).length) ([], H.2) (kpF (5, 0, f, L) ps) → K (-7) M2) →
          (¬ blw u.1 (tj (cpN f R R.length) pg).length → ∀ M2, Fr (fun k => 576 ≤ k ∧ k < 640) M10 M2 → RT M2 tr t (acS s) fl (apw f (tj (cpN f R R.length) pg), L, 0) (fuN u.1 (tj (cpN f R R.length) pg).length, (tj (cpN f R R.length) pg).length) ([], H.2) (kpF (5, 0, f, L) ps) → K R.length M2) → T_X10_compact K M10 := by
        intro K M10 hR10 kb ka
        apply rdr K M10 hR10
        · intro h; omega
        · intro _ M7 hF7 hR7 x1 x2 x4 x5
          have hDk := hR7.2.2.2.2.1
          apply P_X10_keeps hR7.2.2.2.2.2.2.2 hDk.1 hDk.2.2 hDk.2.1
          intro M14 hF14 hP14
          have hR14 : RT M14 tr t s fl (f, L, 0) u H (kpF (5, 0, f, L) ps) := RT_Pa hR7 hF14 (fun k _ h => by unfold fPR at h; unfold rPaI; omega) hP14
          have FF14 : Fr (fun k => 576 ≤ k ∧ k < 640) M10 M14 := Fr_trans hF7 (Fr_mono hF14 (fun k h => by unfold fPR at h; omega))
          have z583 : M14.2 583 = M7.2 583 := hF14.2 583 (by unfold fPR; omega)
          have z606 : M14.1 606 = M7.1 606 := hF14.1 606 (by unfold fPR; omega)
          have z600 : M14.1 600 = R.length := by rw [hF14.1 600 (by unfold fPR; omega)]; exact x5
          refine P_X10_beginsWriting (M := M14) (by rw [hR14.2.2.2.2.2.1.1]; exact hO.2.2.2.2.1.1) ?_
          intro M15 hw15
          refine P_X10_throughJournal (b := bL R.length) hw15 (by rw [z583]; exact x1) hl10 (fun p p0 p1 => ⟨by rw [z606]; exact x4 p p0 p1, bL_01 _ _⟩) hpg ?_
          intro M17 hw17 M12 hM12
          have e600 : M12.1 600 = R.length := by rw [hM12, setS_1, if_neg (by decide), hw17.1.1 600 (by unfold fWr; omega)]; exact z600
          rw [e600]
          apply P_R_fin2 (by omega : N ≤ 100000) hR14 hs hw17 hM12 (by rw [z583]; exact x2)
          · intro hbl M2 hF2 hR2
            exact kb hbl M2 (Fr_trans FF14 hF2) hR2
          · intro hbl M2 hF2 hR2
            exact ka hbl M2 (Fr_trans FF14 hF2) hR2
      have cl : ∀ {M1 : zMem}, Fr (fun k => k < 576 ∨ 1024 ≤ k) M4 M1 → RT M1 tr t s fl (f, L, 0) u H ps := fun hF => RT_cl hR4 hF (fun k h => by omega)
      refine P_X9_carryOut (b := bL R.length) (by omega : N ≤ 100000) hC4 hs (by omega) hO.2.2.2.2.1.1 (by rw [y1]; exact hLat2) y2 hl10 (fun p p0 p1 => ⟨?_, bL_01 _ _⟩) hpg (DOK_dir (hdok 0).2) ?_ ?_
      · rw [y3 p, b4 p p0 p1]
        unfold bL
        by_cases q : p < R.length
        · rw [if_pos q, if_pos ⟨p0, q⟩]
        · rw [if_neg q, if_neg (by omega)]
      · intro hbl M1 hF1 hC1
        apply rfin _ M1 (cl hF1)
        · intro _ M2 hF2 hR2
          refine G_in (CS_rf hC1 hF2 (fun k h => h)) hR2 (rfS_ok (by omega) hs (OKS_b hO ho2 ((hdok _).1 ?_) hLk ⟨hh.2.1, by omega⟩))
          have := nwr_blw hbl; omega
        · intro h; exact absurd hbl h
      · intro hbl M1 hF1 hC1
        rw [if_pos (Or.inr rfl)] at hC1
        apply rfin _ M1 (cl hF1)
        · intro h; exact absurd h hbl
        · intro _ M2 hF2 hR2
          exact G_in (CS_rf hC1 hF2 (fun k h => h)) hR2 (OKS_a hO ho2 (hdok 0).2 hLk hbl (by show ((([] : List Int).length : Nat) : Int) ≤ _; rw [List.length_nil]; omega) ⟨hh.2.1, by omega⟩)
  · apply P_X9_refuse (by omega) hs (by omega) hC
    intro M3 hF3 hC3
    have hR3 := RT_cl hR hF3 (fun k h => by omega)
    unfold T_X10_compact
    intro M1 hM1
    have hR1 := RT_576 hR3 hM1
    apply P_X10_isDown hR1.2.2.2.2.1.2.2 hd
    exact ⟨fun q => absurd q hdn, fun _ => ref_r hN (by omega) (CS_576 hC3 hM1) hR1 hO⟩
