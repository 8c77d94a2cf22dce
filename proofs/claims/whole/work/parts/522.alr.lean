theorem isIx_ex (p : Int) (h : List Int) : ∃ k, isIx p k h := by
  have step : ∀ n : Nat, n ≤ h.length → (∀ j : Int, 0 ≤ j → j < n → gi h j ≠ p) ∨ ∃ k, isIx p k h := by
    intro n
    induction n with
    | zero => intro _; exact Or.inl (fun j a b => by omega)
    | succ n ih =>
      intro hn
      rcases ih (by omega) with h1 | h1
      · by_cases q : gi h n = p
        · exact Or.inr ⟨n, Or.inr ⟨⟨by omega, by omega⟩, q, h1⟩⟩
        · refine Or.inl (fun j a b => ?_)
          by_cases q2 : j = n
          · rw [q2]; exact q
          · exact h1 j a (by omega)
      · exact Or.inr h1
  rcases step h.length (Nat.le_refl _) with h1 | h1
  · exact ⟨-1, Or.inl ⟨rfl, notin_gi h1⟩⟩
  · exact h1
section
variable {tr : Int → Int} {t : List Int} {s : Int × (Int → Int)} {fl : Int} {f : Int → Int} {L L' : Lrn} {d : Int} {u : Int × Int} {H : List Int × Int} {ps : List Mom}
theorem P_R_fin {v N : Int} {ws : List (Int × Int)} {Q : Int → zMem → Prop} {M M' : zMem} (hN : N ≤ 100000) (hR : RT M tr t s fl (f, L, d) u H ps) (hs : ∀ j, 0 ≤ j → j < 7 → 0 ≤ s.2 j ∧ s.2 j ≤ N) (hl : H.1.length ≤ 4) (hw : WR M M' ws) (hL : Lat (M.2 583) 661 L') (hD : DirOK (apw f ws))
    (hQb : blw u.1 ws.length → ∀ M2, Fr (fun k => 576 ≤ k ∧ k < 640) M M2 → RT M2 tr t (rfS (-7) s) fl (apw f (ws.take (nwr u.1 ws.length)), L', 1) (-1, nwr u.1 ws.length) ([], H.2) ps → Q (-7) M2)
    (hQa : ¬ blw u.1 ws.length → ∀ M2, Fr (fun k => 576 ≤ k ∧ k < 640) M M2 → RT M2 tr t (acS s) fl (apw f ws, L', d) (fuN u.1 ws.length, ws.length) (frF (apw f ws) H.1, H.2) ps → Q v M2) : T_X10_ends v (fun y18 M19 => T_X10_letsFree (fun M20 => Q y18 M20) M19) M' := by
  have FF : Fr (fun k => 576 ≤ k ∧ k < 640) M M' := Fr_mono hw.1 (fun k h => by unfold fWr at h; omega)
  obtain ⟨w1, w2⟩ := WR_RT hR hw
  have hL2 : Lat (M'.2 583) 661 L' := by rw [hw.1.2 583 (by unfold fWr; omega)]; exact hL
  by_cases hbl : blw u.1 ws.length
  · obtain ⟨hR', h589⟩ := w1 hbl
    apply P_X10_ends (b := 1) hN hR' hs h589 hL2
    · intro _ M2 hF2 hR2
      have hH2 := hR2.2.2.2.2.2.2.1
      apply P_X10_letsFree (h := []) (fun h => absurd rfl h) hH2.1 (by simp)
      intro M3 hF3 hH3
      refine hQb hbl M3 (Fr_trans (Fr_trans FF (Fr_mono hF2 (fun k h => by omega))) (Fr_mono hF3 (fun k h => by omega))) ?_
      exact RT_He hR2 hF3 (fun k _ h => by unfold rHeI; omega) ⟨hH3, by rw [hF3.1 613 (by decide)]; exact hH2.2⟩
    · intro h; omega
  · obtain ⟨hR', h589⟩ := w2 hbl
    apply P_X10_ends (b := 0) hN hR' hs h589 hL2
    · intro h; exact absurd rfl h
    · intro _ M2 hF2 hR2
      have hH2 := hR2.2.2.2.2.2.2.1
      have ag := agr_r hR2
      apply P_X10_letsFree (fun _ => agr_dir (agr_symm ag) hD) hH2.1 hl
      intro M3 hF3 hH3
      have ef : frF (M2.2 582) H.1 = frF (apw f ws) H.1 := frF_agr ag (by rw [ag 640 (by omega) (by omega)]; exact hD.1.2) H.1
      rw [ef] at hH3
      refine hQa hbl M3 (Fr_trans (Fr_trans FF (Fr_mono hF2 (fun k h => by omega))) (Fr_mono hF3 (fun k h => by omega))) ?_
      exact RT_He hR2 hF3 (fun k _ h => by unfold rHeI; omega) ⟨hH3, by rw [hF3.1 613 (by decide)]; exact hH2.2⟩
theorem P_X10_alone {key act N : Int} {e : List Int} {lim : Nat} {Q : Int → zMem → Prop} {M : zMem} (hN : N ≤ 1000) (hR : RT M tr t s fl (f, L, d) u H ps) (hO : OKS N tr t s (f, L, d) u H ps) (hA : AL (M.2 614) 0 e) (he : eOK e) (hkey : gi e 1 = key) (hlim : tr 4 = lim) (hl4 : 1 ≤ lim ∧ lim ≤ 4)
    (hQd : d ≠ 0 → ∀ M', Fr (fun k => 576 ≤ k ∧ k < 640) M M' → RT M' tr t (rfS (-3) s) fl (f, L, d) u H ps → Q (-3) M')
    (hQr : d = 0 → (ed tr f L e).1 < 0 → ∀ M', Fr (fun k => 576 ≤ k ∧ k < 640) M M' → RT M' tr t (rfS (ed tr f L e).1 s) fl (f, L, d) u (holdS lim H (f (641 + 2 * od f key))) ps → Q (ed tr f L e).1 M')
    (hQb : d = 0 → 0 ≤ (ed tr f L e).1 → blw u.1 (wsE (ed tr f L e) e).length → ∀ M', Fr (fun k => 576 ≤ k ∧ k < 640) M M' → RT M' tr t (rfS (-7) s) fl (apw f ((wsE (ed tr f L e) e).take (nwr u.1 (wsE (ed tr f L e) e).length)), (ed tr f L e).2.2.1, 1) (-1, nwr u.1 (wsE (ed tr f L e) e).length) ([], (holdS lim H (f (641 + 2 * od f key))).2) (kpF (act, 0, f, L) ps) → Q (-7) M')
    (hQa : d = 0 → 0 ≤ (ed tr f L e).1 → ¬ blw u.1 (wsE (ed tr f L e) e).length → ∀ M', Fr (fun k => 576 ≤ k ∧ k < 640) M M' → RT M' tr t (acS s) fl (apw f (wsE (ed tr f L e) e), (ed tr f L e).2.2.1, 0) (fuN u.1 (wsE (ed tr f L e) e).length, (wsE (ed tr f L e) e).length) (frF (apw f (wsE (ed tr f L e) e)) (holdS lim H (f (641 + 2 * od f key))).1, (holdS lim H (f (641 + 2 * od f key))).2) (kpF (act, 0, f, L) ps) → Q (ed tr f L e).1 M') : T_X10_alone act Q M := by
  have hs := hO.2.2.1
  have hg := hO.1
  have hLk : lrnOK L := hO.2.2.2.1.2
  have a614 : alen 614 = 10 := alen_614
  have hel := eOK_len he
  unfold T_X10_alone
  apply P_X10_isDown hR.2.2.2.2.1.2.2 (DOK_d hO.2.2.2.1.1)
  refine ⟨fun hdn => ⟨⟨by omega, by omega⟩, ?_⟩, fun hdn => ?_⟩
  · have hdn : d = 0 := hdn
    subst hdn
    obtain ⟨hW, h661⟩ : WFz f ∧ f 661 = 0 := OK_z hO rfl
    have hOd := od_ok hW.1 key
    obtain ⟨i, hi⟩ : ∃ i, i = od f key := ⟨_, rfl⟩
    have hQr := hQr rfl
    have hQb := hQb rfl
    have hQa := hQa rfl
    rw [← hi] at hOd hQr hQb hQa
    have ek : M.2 614 1 = key := by rw [AL_gi hA (by omega) (by omega)]; exact hkey
    rw [ek]
    apply P_uses hN hR hO hW hOd hlim hl4
    intro M9 hF9 hR9
    have hx := isIx_ex (f (641 + 2 * i)) H.1
    have hlen := hld_len (lim := lim) (p := f (641 + 2 * i)) (by have := hO.2.2.2.2.2.1.1; omega) hl4.1 hx
    obtain ⟨H1, hH1⟩ : ∃ H1, H1 = holdS lim H (f (641 + 2 * i)) := ⟨_, rfl⟩
    have hH1l : H1.1.length ≤ 4 := by rw [hH1]; show (hldF lim H.1 (f (641 + 2 * i))).length ≤ 4; omega
    have hR9 : RT M9 tr t s fl (f, L, 0) u H1 ps := by rw [hH1]; exact hR9
    rw [← hH1] at hQr hQb hQa
    have FF9 : Fr (fun k => 576 ≤ k ∧ k < 640) M M9 := Fr_mono hF9 (fun k h => by unfold fHR at h; omega)
    apply P_X10_drafts
    intro M10 hF10 d1 d2
    have FF10 : Fr (fun k => 576 ≤ k ∧ k < 640) M M10 := Fr_trans FF9 (Fr_mono hF10 (fun k h => by unfold fDr at h; omega))
    have hR10 := RT_sc hR9 hF10 (fun k h => by unfold fDr at h; omega)
    have ag10 : agr (M10.2 583) f := fun j a b => by rw [d1 j a (by omega)]; exact agr_r hR9 j a b
    have e614 : M10.2 614 = M.2 614 := by rw [hF10.2 614 (by unfold fDr; omega), hF9.2 614 (by unfold fHR; omega)]
    have hgT : agT (M10.2 579) tr := hR10.1.1
    have hLat10 : Lat (M10.2 583) 661 L := by
      have := hR9.2.2.2.2.1.2.1
      unfold Lat at this ⊢
      rw [d1 661 (by omega) (by omega), d1 (661 + 1) (by omega) (by omega), d1 (661 + 2) (by omega) (by omega), d1 (661 + 3) (by omega) (by omega)]
      exact this
    have hOe : IsOrd f (gi e 1) (od f (gi e 1)) := od_ok hW.1 _
    have hwt := wt_ok hW hOe.1
    have hed : edW (M10.2 579) f L e (od f (gi e 1)) (wt f (od f (gi e 1))).1 (wt f (od f (gi e 1))).2.1 (wt f (od f (gi e 1))).2.2 = ed tr f L e := edW_agT hgT
    obtain ⟨r, hr⟩ : ∃ r, r = ed tr f L e := ⟨_, rfl⟩
    apply P_X10_edits (Or.inr rfl) (by rw [e614]; exact hA) he ⟨by omega, by omega⟩ ag10 hW hOe hwt.1 (trmOK_agT (agT_symm hgT) hg) hLk hLat10 (by rw [d2]; omega)
    · rw [hed]
      intro hneg M12 hF12
      have FF12 : Fr (fun k => 576 ≤ k ∧ k < 640) M M12 := Fr_trans FF10 (Fr_mono hF12 (fun k h => by unfold fEr fLr fTr fUr fSg fSr fTyr fRp at h; omega))
      have hR12 := RT_sc hR10 hF12 (fun k h => by unfold fEr fLr fTr fUr fSg fSr fTyr fRp at h; omega)
      refine ⟨fun q => by omega, fun _ => ?_⟩
      have hcd := ed_codes hneg
      apply P_X10_refuses (by omega) hs (by omega) hR12
      intro M22 hF22 hR22
      exact hQr hneg M22 (Fr_trans FF12 (Fr_mono hF22 (fun k h => by omega))) hR22
    · rw [hed]
      intro hpos M12 hF12 w1 w2 w3 w4 w5
      have FF12 : Fr (fun k => 576 ≤ k ∧ k < 640) M M12 := Fr_trans FF10 (Fr_mono hF12 (fun k h => by unfold fEr fLr fTr fUr fSg fSr fTyr fRp at h; omega))
      have hR12 := RT_sc hR10 hF12 (fun k h => by unfold fEr fLr fTr fUr fSg fSr fTyr fRp at h; omega)
      have hQb := hQb hpos
      have hQa := hQa hpos
      have hdok := fun n => DOK_ws (n := n) hW h661 hg hLk he hpos
      have hkeeps := ed_keeps hW hg hLk he hpos
      have hlog := fun q0 => ed_log (e := e) (L := L) hg hW q0
      rw [← hr] at hQb hQa w1 w2 w4 w5 hdok hpos hkeeps hlog ⊢
      have hl10 := hkeeps.1.1.1
      refine ⟨fun _ => ?_, fun q => by omega⟩
      have hDk := hR12.2.2.2.2.1
      apply P_X10_keeps hR12.2.2.2.2.2.2.2 hDk.1 hDk.2.2 hDk.2.1
      intro M14 hF14 hP14
      have FF14 : Fr (fun k => 576 ≤ k ∧ k < 640) M M14 := Fr_trans FF12 (Fr_mono hF14 (fun k h => by unfold fPR at h; omega))
      have hR14 : RT M14 tr t s fl (f, L, 0) u H1 (kpF (act, 0, f, L) ps) := RT_Pa hR12 hF14 (fun k _ h => by unfold fPR at h; unfold rPaI; omega) hP14
      have x583 : M14.2 583 = M12.2 583 := hF14.2 583 (by unfold fPR; omega)
      have x606 : M14.1 606 = M12.1 606 := hF14.1 606 (by unfold fPR; omega)
      refine P_X10_beginsWriting (M := M14) (by rw [hR14.2.2.2.2.2.1.1]; exact hO.2.2.2.2.1.1) ?_
      intro M15 hw15
      refine ⟨fun q0 => ?_, fun q0 => ?_⟩
      · have ews : wsE r e = tj r.2.1 (pgsTo (bP r.2.2.2.1) 10) := by unfold wsE; rw [if_neg q0]
        rw [ews] at hQb hQa hdok
        refine P_X10_throughJournal (b := bP r.2.2.2.1) hw15 (by rw [x583]; exact w1) hl10 (fun p p0 p1 => ⟨?_, bP_01 _ _⟩) rfl ?_
        · rw [x606, w4 p p0 p1, d2, bt_0 ⟨p0, p1⟩]; rfl
        · intro M17 hw17
          apply P_R_fin (by omega : N ≤ 100000) hR14 hs hH1l hw17 (by rw [x583]; exact w2) (DOK_dir (hdok 0).2)
          · intro hbl M2 hF2 hR2
            exact hQb hbl M2 (Fr_trans FF14 hF2) hR2
          · intro hbl M2 hF2 hR2
            exact hQa hbl M2 (Fr_trans FF14 hF2) hR2
      · obtain ⟨i', pkd, es, rs, x1, x2, x3, x4, x5, x6⟩ := hlog q0
        have hpg := x2.1.1.1
        have ews : wsE r e = weL r.2.2.2.2 e := by unfold wsE; rw [if_pos q0]
        rw [ews] at hQb hQa hdok
        have x604 : M14.1 604 = r.2.2.2.2 := by rw [hF14.1 604 (by unfold fPR; omega)]; exact (w5 q0).1
        have x605 : M14.1 605 = e.length := by rw [hF14.1 605 (by unfold fPR; omega)]; exact (w5 q0).2
        have hplb : 0 ≤ r.2.2.2.2 ∧ r.2.2.2.2 + e.length ≤ 640 := by rw [x4]; omega
        refine P_X10_alone_63 hw15 x604 x605 ?_ he hplb ?_
        · intro j j0 j1
          rw [x583, w1 _ (by omega) (by omega), x5, ← x4]
          unfold lgF
          rw [if_pos (by omega)]
          congr 1; omega
        · intro M17 hw17
          rw [q0] at hQa ⊢
          apply P_R_fin (by omega : N ≤ 100000) hR14 hs hH1l hw17 (by rw [x583]; exact w2) (DOK_dir (hdok 0).2)
          · intro hbl M2 hF2 hR2
            exact hQb hbl M2 (Fr_trans FF14 hF2) hR2
          · intro hbl M2 hF2 hR2
            exact hQa hbl M2 (Fr_trans FF14 hF2) hR2
  · apply P_X10_refuses (by omega) hs (by omega) hR
    intro M24 hF24 hR24
    exact hQd hdn M24 (Fr_mono hF24 (fun k h => by omega)) hR24
end
