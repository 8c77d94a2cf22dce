noncomputable def wsE (r : ED) (e : List Int) : List (Int × Int) := if r.1 = 0 then weL r.2.2.2.2 e else tj r.2.1 (pgsTo (bP r.2.2.2.1) 10)
theorem DOK_ws {tr f : Int → Int} {L : Lrn} {e : List Int} {n : Nat} (hW : WFz f) (h0 : f 661 = 0) (hg : trmOK tr) (hL : lrnOK L) (he : eOK e) (hc : 0 ≤ (ed tr f L e).1) : (n < (wsE (ed tr f L e) e).length → DOK (apw f ((wsE (ed tr f L e) e).take n)) 1) ∧ DOK (apw f (wsE (ed tr f L e) e)) 0 := by
  obtain ⟨k1, k2, k3⟩ := ed_keeps hW hg hL he hc
  unfold wsE
  by_cases q : (ed tr f L e).1 = 0
  · rw [if_pos q]
    obtain ⟨i, pkd, es, rs, h1, h2, h3, h4, h5, h6⟩ := ed_log hg hW q
    rw [h4]
    rw [h5] at k1
    exact DOK_we hW h0 h1 h2 he h3 k1
  · rw [if_neg q]
    refine DOK_tj2 hW h0 k1 (fun p hp => (bP_mem.mp hp).1) (pgsTo_len _ _) (fun j j0 j1 hj => (ed_out hW q hc j1 (fun p hp => ?_)).symm)
    exact hj p (bP_mem.mpr ⟨k3 p hp, hp⟩)
theorem DOK_dir {f : Int → Int} (h : DOK f 0) : DirOK f := by
  rcases h with h | h
  · exact h.2.2.1
  · have := h.1; omega
section
variable {tr : Int → Int} {t : List Int} {s : Int × (Int → Int)} {fl : Int} {f : Int → Int} {L : Lrn} {d : Int} {u : Int × Int} {H : List Int × Int} {ps : List Mom}
theorem P_X9_editAlone {key act N : Int} {e : List Int} {lim : Nat} {Q : Int → zMem → Prop} {M : zMem} (hN : N ≤ 1000) (hC : CS M tr t s fl (f, L, d) u H ps) (hO : OKS N tr t s (f, L, d) u H ps) (hA : AL (M.2 4) 0 e) (he : eOK e) (hkey : gi e 1 = key) (hact : 0 ≤ act ∧ act ≤ 3) (hlim : tr 4 = lim) (hl4 : 1 ≤ lim ∧ lim ≤ 4)
    (hQd : d ≠ 0 → ∀ M', Fr (fun k => k < 576 ∨ 1024 ≤ k) M M' → CS M' tr t (rfS (-3) s) fl (f, L, d) u H ps → Q (-3) M')
    (hQr : d = 0 → (∃ k, isIx (f (641 + 2 * od f key)) k H.1) → (ed tr f L e).1 < 0 → ∀ M', Fr (fun k => k < 576 ∨ 1024 ≤ k) M M' → CS M' tr t (rfS (ed tr f L e).1 s) fl (f, L, d) u (holdS lim H (f (641 + 2 * od f key))) ps → Q (ed tr f L e).1 M')
    (hQb : d = 0 → (∃ k, isIx (f (641 + 2 * od f key)) k H.1) → 0 ≤ (ed tr f L e).1 → blw u.1 (wsE (ed tr f L e) e).length → ∀ M', Fr (fun k => k < 576 ∨ 1024 ≤ k) M M' → CS M' tr (if act = 0 ∨ act = 1 then [] else t) (rfS (-7) s) fl (apw f ((wsE (ed tr f L e) e).take (nwr u.1 (wsE (ed tr f L e) e).length)), (ed tr f L e).2.2.1, 1) (-1, nwr u.1 (wsE (ed tr f L e) e).length) ([], (holdS lim H (f (641 + 2 * od f key))).2) (kpF (act, 0, f, L) ps) → Q (-7) M')
    (hQa : d = 0 → (∃ k, isIx (f (641 + 2 * od f key)) k H.1) → 0 ≤ (ed tr f L e).1 → ¬ blw u.1 (wsE (ed tr f L e) e).length → ∀ M', Fr (fun k => k < 576 ∨ 1024 ≤ k) M M' → CS M' tr (if act = 0 ∨ act = 1 then [] else t) (acS s) fl (apw f (wsE (ed tr f L e) e), (ed tr f L e).2.2.1, 0) (fuN u.1 (wsE (ed tr f L e) e).length, (wsE (ed tr f L e) e).length) (frF (apw f (wsE (ed tr f L e) e)) (holdS lim H (f (641 + 2 * od f key))).1, (holdS lim H (f (641 + 2 * od f key))).2) (kpF (act, 0, f, L) ps) → Q (ed tr f L e).1 M') : T_X9_editAlone key act Q M := by
  have hs := hO.2.2.1
  have hg := hO.1
  have hLk := hO.2.2.2.1.2
  have a4 : alen 4 = 10 := alen_4
  have hel := eOK_len he
  unfold T_X9_editAlone
  rw [hC.2.2.2.2.1.2.2]
  refine ⟨fun hdn => ?_, fun hdn => ?_⟩
  · have hdn : d = 0 := hdn
    subst hdn
    obtain ⟨hW, h661⟩ : WFz f ∧ f 661 = 0 := OK_z hO rfl
    have hOd := od_ok hW.1 key
    obtain ⟨i, hi⟩ : ∃ i, i = od f key := ⟨_, rfl⟩
    have hQr := hQr rfl
    have hQb := hQb rfl
    have hQa := hQa rfl
    rw [← hi] at hOd hQr hQb hQa
    obtain ⟨p, hp⟩ : ∃ p, p = f (641 + 2 * i) := ⟨_, rfl⟩
    apply P_X9_pageFor (f := f) hW (agr_c hC) hOd
    rw [← hp] at hQr hQb hQa ⊢
    refine ⟨⟨by omega, by omega⟩, ?_⟩
    apply P_hold hN hC hO hlim hl4
    intro hx M11 hF11 hC11
    have hlen := hld_len (lim := lim) (p := p) (by have := hO.2.2.2.2.2.1.1; omega) hl4.1 hx
    have hQr := hQr hx
    have hQb := hQb hx
    have hQa := hQa hx
    obtain ⟨H1, hH1⟩ : ∃ H1, H1 = holdS lim H p := ⟨_, rfl⟩
    have hH1l : H1.1.length ≤ 4 := by rw [hH1]; show (hldF lim H.1 p).length ≤ 4; omega
    rw [← hH1] at hC11 hQr hQb hQa
    have FF11 : Fr (fun k => k < 576 ∨ 1024 ≤ k) M M11 := Fr_mono hF11 (fun k h => by unfold fHC at h; omega)
    apply P_X1_begin
    intro M12 hF12 b1 b2 b3 b4
    have FF12 : Fr (fun k => k < 576 ∨ 1024 ≤ k) M M12 := Fr_trans FF11 (Fr_mono hF12 (fun k h => by unfold fBg at h; omega))
    have hC12 := CS_sc hC11 hF12 (fun k h => by unfold fBg at h; omega)
    have ag12 : agr (M12.2 128) f := agr_trans b1 (agr_c hC11)
    have e4 : M12.2 4 = M.2 4 := by rw [hF12.2 4 (by unfold fBg; omega), hF11.2 4 (by unfold fHC; omega)]
    have hgT : agT (M12.2 133) tr := fun j a b => by rw [b3 j a b]; exact hC11.1 j a b
    have hLat12 : Lat (M12.2 129) 0 L := by
      have := hC11.2.2.2.2.1.2.1
      unfold Lat at this ⊢
      rw [b2 0 (by omega) (by omega), b2 (0 + 1) (by omega) (by omega), b2 (0 + 2) (by omega) (by omega), b2 (0 + 3) (by omega) (by omega)]
      exact this
    have hOe : IsOrd f (gi e 1) (od f (gi e 1)) := od_ok hW.1 _
    have hwt := wt_ok hW hOe.1
    have hed : edW (M12.2 133) f L e (od f (gi e 1)) (wt f (od f (gi e 1))).1 (wt f (od f (gi e 1))).2.1 (wt f (od f (gi e 1))).2.2 = ed tr f L e := edW_agT hgT
    obtain ⟨r, hr⟩ : ∃ r, r = ed tr f L e := ⟨_, rfl⟩
    apply P_X1_edit (Or.inr rfl) (by rw [e4]; exact hA) he ⟨by omega, by omega⟩ ag12 hW hOe hwt.1 (trmOK_agT (agT_symm hgT) hg) hLk hLat12
    · rw [hed]
      intro hneg M14 hF14
      have FF14 : Fr (fun k => k < 576 ∨ 1024 ≤ k) M M14 := Fr_trans FF12 (Fr_mono hF14 (fun k h => by unfold fEd fLd fTb fUn fSp fTy fPb fPk at h; omega))
      have hC14 := CS_sc hC12 hF14 (fun k h => by unfold fEd fLd fTb fUn fSp fTy fPb fPk at h; omega)
      refine ⟨fun q => by omega, fun _ => ?_⟩
      have hcd := ed_codes hneg
      apply P_X9_refuse (by omega) hs (by omega) hC14
      intro M19 hF19 hC19
      exact hQr hneg M19 (Fr_trans FF14 (Fr_mono hF19 (fun k h => by omega))) hC19
    · rw [hed]
      intro hpos M14 hF14 w1 w2 w3 w4
      have FF14 : Fr (fun k => k < 576 ∨ 1024 ≤ k) M M14 := Fr_trans FF12 (Fr_mono hF14 (fun k h => by unfold fEd fLd fTb fUn fSp fTy fPb fPk at h; omega))
      have hC14 := CS_sc hC12 hF14 (fun k h => by unfold fEd fLd fTb fUn fSp fTy fPb fPk at h; omega)
      have hQb := hQb hpos
      have hQa := hQa hpos
      have hdok := fun n => DOK_ws (n := n) hW h661 hg hLk he hpos
      have e4' : M14.2 4 = M.2 4 := by rw [hF14.2 4 (by unfold fEd fLd fTb fUn fSp fTy fPb fPk; omega)]; exact e4
      have hb130 : ∀ q, 0 ≤ q → q < 10 → M14.2 130 q = bP (ed tr f L e).2.2.2.1 q ∧ (bP (ed tr f L e).2.2.2.1 q = 0 ∨ bP (ed tr f L e).2.2.2.1 q = 1) := by
        intro q q0 q1
        refine ⟨?_, bP_01 _ _⟩
        rw [w3 q, b4 q q0 q1]
        rfl
      rw [← hr] at hQb hQa w1 w2 w4 hb130 hdok hpos ⊢
      have hkeeps := ed_keeps hW hg hLk he (by rw [← hr]; exact hpos)
      rw [← hr] at hkeeps
      have hl10 := hkeeps.1.1.1
      -- the rest, whatever the tape
      have rest : ∀ (t' : List Int) (M8 : zMem), Fr (fun k => k < 576 ∨ 1024 ≤ k) M M8 → CS M8 tr t' s fl (f, L, 0) u H1 ps → M8.2 = M14.2 → (∀ k, k ≠ 3 → M8.1 k = M14.1 k) →
          (blw u.1 (wsE r e).length → ∀ M', Fr (fun k => k < 576 ∨ 1024 ≤ k) M M' → CS M' tr t' (rfS (-7) s) fl (apw f ((wsE r e).take (nwr u.1 (wsE r e).length)), r.2.2.1, 1) (-1, nwr u.1 (wsE r e).length) ([], H1.2) (kpF (act, 0, f, L) ps) → Q (-7) M') →
          (¬ blw u.1 (wsE r e).length → ∀ M', Fr (fun k => k < 576 ∨ 1024 ≤ k) M M' → CS M' tr t' (acS s) fl (apw f (wsE r e), r.2.2.1, 0) (fuN u.1 (wsE r e).length, (wsE r e).length) (frF (apw f (wsE r e)) H1.1, H1.2) (kpF (act, 0, f, L) ps) → Q r.1 M') → T_X9_editAlone_94 act r.1 Q M8 := by
        intro t' M8 FF8 hC8 s8 o8 kb ka
        unfold T_X9_editAlone_94
        refine ⟨fun q0 => ?_, fun q0 => ?_⟩
        · obtain ⟨i', pkd, es, rs, x1, x2, x3, x4, x5, x6⟩ := ed_log hg hW (by rw [← hr]; exact q0)
          rw [← hr] at x4 x5
          have ews : wsE r e = weL r.2.2.2.2 e := by unfold wsE; rw [if_pos q0]
          rw [ews] at kb ka hdok
          have hpg := x2.1.1.1
          apply P_X9_keepAndLearn hC8 (Or.inl rfl) (by rw [s8]; exact w2)
          intro M2 hF2 hC2
          have FF2 : Fr (fun k => k < 576 ∨ 1024 ≤ k) M M2 := Fr_trans FF8 (Fr_mono hF2 (fun k h => by unfold fPC at h; omega))
          have e131 : M2.1 131 = r.2.2.2.2 := by rw [hF2.1 131 (by unfold fPC; omega), o8 131 (by decide)]; exact w4 q0
          rw [e131]
          refine P_X0_writeEntry (by rw [hC2.2.2.2.2.2.1.1]; exact hO.2.2.2.2.1.1) (by rw [hF2.2 4 (by unfold fPC; omega), s8, e4']; exact hA) he (by rw [x4]; omega) ?_
          intro M3 hw3
          have FF3 : Fr (fun k => k < 576 ∨ 1024 ≤ k) M M3 := Fr_trans FF2 (Fr_mono hw3.1 (fun k h => by unfold fW at h; omega))
          obtain ⟨wc1, wc2⟩ := WC_CS hC2 hw3
          by_cases hbl : blw u.1 (weL r.2.2.2.2 e).length
          · obtain ⟨hC3, h67⟩ := wc1 hbl
            apply P_X9_tellOutcome (b := 1) (by omega) hC3 hs hH1l h67
            · intro _ M' hF' hC'
              exact kb hbl M' (Fr_trans FF3 (Fr_mono hF' (fun k h => by omega))) hC'
            · intro h; omega
            · intro h; omega
            · intro h; omega
          · obtain ⟨hC3, h67⟩ := wc2 hbl
            apply P_X9_tellOutcome (b := 0) (by omega) hC3 hs hH1l h67
            · intro h; exact absurd rfl h
            · intro _ _; exact DOK_dir (hdok 0).2
            · intro _ h; omega
            · intro _ _ M' hF' hC'
              exact ka hbl M' (Fr_trans FF3 (Fr_mono hF' (fun k h => by omega))) hC'
        · have ews : wsE r e = tj r.2.1 (pgsTo (bP r.2.2.2.1) 10) := by unfold wsE; rw [if_neg q0]
          rw [ews] at kb ka hdok
          refine P_X9_carryOut (by omega : N ≤ 100000) hC8 hs hH1l hO.2.2.2.2.1.1 (by rw [s8]; exact w2) (by rw [s8]; exact w1) hl10 (by rw [s8]; exact hb130) rfl (DOK_dir (hdok 0).2) ?_ ?_
          · intro hbl M' hF' hC'
            exact kb hbl M' (Fr_trans FF8 hF') hC'
          · intro hbl M' hF' hC'
            rw [if_neg (by omega)] at hC'
            exact ka hbl M' (Fr_trans FF8 hF') hC'
      have r89 : (act = 0 ∨ act = 1) → T_X9_editAlone_89 act r.1 Q M14 := by
        intro ha
        rw [if_pos ha] at hQb hQa
        unfold T_X9_editAlone_89
        intro M8 hM8
        have F8 : Fr (fun k => k = 3) M14 M8 := by rw [hM8]; exact Fr_setS rfl
        refine rest [] M8 (Fr_trans FF14 (Fr_mono F8 (fun k h => by omega))) (CS_Tp hC14 F8 (fun k _ h => by unfold cTpI; omega) ⟨by rw [hM8]; rfl, AL_nil _ _⟩) (by rw [hM8]; rfl) (fun k hk => by rw [hM8, setS_1, if_neg hk]) hQb hQa
      refine ⟨fun _ => ⟨fun q => r89 (Or.inl q), fun q => ⟨fun q2 => ?_, fun q2 => r89 (Or.inr q2)⟩⟩, fun q => by omega⟩
      rw [if_neg (by omega)] at hQb hQa
      exact rest t M14 FF14 hC14 rfl (fun k _ => rfl) hQb hQa
  · apply P_X9_refuse (by omega) hs (by omega) hC
    intro M21 hF21 hC21
    exact hQd hdn M21 (Fr_mono hF21 (fun k h => by omega)) hC21
end
