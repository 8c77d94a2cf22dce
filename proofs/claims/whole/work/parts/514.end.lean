def fuN (F : Int) (n : Nat) : Int := if F < 0 then F else F - n
theorem apw_agD {a f : Int → Int} (h : agD a f) (ws : List (Int × Int)) : agD (apw a ws) (apw f ws) := by
  intro j j0 j1
  have : ∀ (ws : List (Int × Int)) (a f : Int → Int), a j = f j → apw a ws j = apw f ws j := by
    intro ws
    induction ws with
    | nil => intro a f e; exact e
    | cons w t ih =>
      intro a f e
      show apw (upI a w.1 w.2) t j = apw (upI f w.1 w.2) t j
      apply ih
      unfold upI
      rw [e]
  exact this ws a f (h j j0 j1)
section
variable {tr : Int → Int} {t : List Int} {s : Int × (Int → Int)} {fl : Int} {f : Int → Int} {L L' : Lrn} {d : Int} {u : Int × Int} {H : List Int × Int} {ps : List Mom}
theorem WC_CS {M M' : zMem} {ws : List (Int × Int)} (hC : CS M tr t s fl (f, L, d) u H ps) (hw : WC M M' ws) : (blw u.1 ws.length → CS M' tr t s fl (apw f (ws.take (nwr u.1 ws.length)), L, 1) (-1, nwr u.1 ws.length) H ps ∧ M'.1 67 = 1) ∧ (¬ blw u.1 ws.length → CS M' tr t s fl (apw f ws, L, d) (fuN u.1 ws.length, ws.length) H ps ∧ M'.1 67 = 0) := by
  obtain ⟨w1, w2, w3, w4, w5, w6⟩ := hw
  obtain ⟨c1, c2, c3, c4, c5, c6, c7, c8⟩ := hC
  have eu := c6.1
  rw [eu] at w2 w3 w4 w5
  have b1 := cTr_fr c1 w1 (fun k h => by unfold cTrI at h; unfold fW; omega)
  have b2 := cTp_fr c2 w1 (fun k h => by unfold cTpI at h; unfold fW; omega)
  have b3 := cSt_fr c3 w1 (fun k h => by unfold cStI at h; unfold fW; omega)
  have b4 := cFl_fr c4 w1 (fun k h => by unfold cFlI at h; unfold fW; omega)
  have b7 := cHe_fr c7 w1 (fun k h => by unfold cHeI at h; unfold fW; omega)
  have b8 := cPa_fr c8 w1 (fun k h => by unfold cPaI at h; unfold fW; omega)
  have e1 : M'.2 1 = M.2 1 := w1.2 1 (by unfold fW; omega)
  refine ⟨fun hb => ?_, fun hb => ?_⟩
  · obtain ⟨x1, x2, x3⟩ := w4 hb
    exact ⟨⟨b1, b2, b3, b4, ⟨by rw [w2]; exact apw_agD c5.1 _, by rw [e1]; exact c5.2.1, x2⟩, ⟨x3, w3⟩, b7, b8⟩, x1⟩
  · obtain ⟨x1, x2, x3⟩ := w5 hb
    rw [nwr_all hb] at w2 w3
    rw [List.take_length] at w2
    refine ⟨⟨b1, b2, b3, b4, ⟨by rw [w2]; exact apw_agD c5.1 _, by rw [e1]; exact c5.2.1, by rw [x2]; exact c5.2.2⟩, ⟨x3, w3⟩, b7, b8⟩, x1⟩
theorem Lat_582 {M0 M : zMem} {us : List (Int × Int)} (h : WR M0 M us) (hL : Lat (M0.2 582) 661 L) : Lat (M.2 582) 661 L := by
  unfold Lat at hL ⊢
  rw [h.2.1, apw_sg_mid (by omega), apw_sg_mid (by omega), apw_sg_mid (by omega), apw_sg_mid (by omega)]
  exact hL
theorem WR_RT {M M' : zMem} {ws : List (Int × Int)} (hR : RT M tr t s fl (f, L, d) u H ps) (hw : WR M M' ws) : (blw u.1 ws.length → RT M' tr t s fl (apw f (ws.take (nwr u.1 ws.length)), L, d) (0, nwr u.1 ws.length) H ps ∧ M'.1 589 = 1) ∧ (¬ blw u.1 ws.length → RT M' tr t s fl (apw f ws, L, d) (fuN u.1 ws.length, ws.length) H ps ∧ M'.1 589 = 0) := by
  have hv := WR_rv hw
  have hLa := fun hL => Lat_582 (L := L) hw hL
  have h665 : M'.2 582 665 = M.2 582 665 := by rw [hw.2.1]; exact apw_sg_mid (by omega) _
  obtain ⟨w1, w2, w3, w4, w5, w6⟩ := hw
  obtain ⟨c1, c2, c3, c4, c5, c6, c7, c8⟩ := hR
  have eu := c6.1
  rw [eu] at hv w3 w4 w5
  have b1 := rTr_fr c1 w1 (fun k h => by unfold rTrI at h; unfold fWr; omega)
  have b2 := rTp_fr c2 w1 (fun k h => by unfold rTpI at h; unfold fWr; omega)
  have b3 := rSt_fr c3 w1 (fun k h => by unfold rStI at h; unfold fWr; omega)
  have b4 := rFl_fr c4 w1 (fun k h => by unfold rFlI at h; unfold fWr; omega)
  have b7 := rHe_fr c7 w1 (fun k h => by unfold rHeI at h; unfold fWr; omega)
  have b8 := rPa_fr c8 w1 (fun k h => by unfold rPaI at h; unfold fWr; omega)
  refine ⟨fun hb => ?_, fun hb => ?_⟩
  · obtain ⟨x1, x3⟩ := w4 hb
    exact ⟨⟨b1, b2, b3, b4, ⟨by rw [hv]; exact apw_agD c5.1 _, hLa c5.2.1, by rw [h665]; exact c5.2.2⟩, ⟨x3, w3⟩, b7, b8⟩, x1⟩
  · obtain ⟨x1, x3⟩ := w5 hb
    rw [nwr_all hb] at hv w3
    rw [List.take_length] at hv
    exact ⟨⟨b1, b2, b3, b4, ⟨by rw [hv]; exact apw_agD c5.1 _, hLa c5.2.1, by rw [h665]; exact c5.2.2⟩, ⟨x3, w3⟩, b7, b8⟩, x1⟩
-- kept and learned
theorem P_X9_keepAndLearn {act : Int} {Q : zMem → Prop} {M : zMem} (hC : CS M tr t s fl (f, L, d) u H ps) (hd : d = 0 ∨ d = 1) (hL : Lat (M.2 129) 0 L') (hQ : ∀ M', Fr (fun k => k = 1 ∨ fPC k) M M' → CS M' tr t s fl (f, L', d) u H (kpF (act, d, f, L) ps) → Q M') : T_X9_keepAndLearn act Q M := by
  unfold T_X9_keepAndLearn
  have hD := hC.2.2.2.2.1
  apply P_X7_keep hC.2.2.2.2.2.2.2 hD.1 hD.2.1 (by rw [hD.2.2]; exact hd)
  intro M1 hF1 hP1
  rw [hD.2.2] at hP1
  have hC1 : CS M1 tr t s fl (f, L, d) u H (kpF (act, d, f, L) ps) := CS_Pa hC hF1 (fun k _ h => by unfold fPC at h; unfold cPaI; omega) hP1
  refine ⟨⟨⟨by omega, by omega, by omega⟩, by omega, by omega, by omega, by omega⟩, fun M2 hM2 => ?_⟩
  have F2 : Fr (fun k => k = 1) M1 M2 := by rw [hM2]; exact Fr_putA rfl
  have e1 : M2.2 1 = cpA (M1.2 129) (M1.2 1) 0 0 4 := by rw [hM2]; rfl
  have e129 : M1.2 129 = M.2 129 := hF1.2 129 (by unfold fPC; omega)
  refine hQ M2 (Fr_trans (Fr_mono hF1 (fun k h => Or.inr h)) (Fr_mono F2 (fun k h => Or.inl h))) ?_
  have hD1 := hC1.2.2.2.2.1
  refine CS_Dk hC1 F2 (fun k _ h => by unfold cDkI; omega) ⟨by rw [F2.2 64 (by decide)]; exact hD1.1, ?_, by rw [F2.1 66 (by decide)]; exact hD1.2.2⟩
  rw [e1, e129]
  unfold Lat at hL ⊢
  rw [cpA_in (by omega), cpA_in (by omega), cpA_in (by omega), cpA_in (by omega)]
  exact hL
-- what the call tells
theorem P_X10_ends {v b : Int} {N : Int} {Q : Int → zMem → Prop} {M : zMem} (hN : N ≤ 100000) (hR : RT M tr t s fl (f, L, d) u H ps) (hs : ∀ j, 0 ≤ j → j < 7 → 0 ≤ s.2 j ∧ s.2 j ≤ N) (hb : M.1 589 = b) (hL : Lat (M.2 583) 661 L')
    (hQ1 : b ≠ 0 → ∀ M', Fr (fun k => k = 577 ∨ k = 578 ∨ k = 582 ∨ k = 587 ∨ k = 612) M M' → RT M' tr t (rfS (-7) s) fl (f, L', 1) (-1, u.2) ([], H.2) ps → Q (-7) M')
    (hQ0 : b = 0 → ∀ M', Fr (fun k => k = 577 ∨ k = 578 ∨ k = 582 ∨ k = 587 ∨ k = 612) M M' → RT M' tr t (acS s) fl (f, L', d) u H ps → Q v M') : T_X10_ends v Q M := by
  unfold T_X10_ends T_X10_ends_4
  apply zl1_rule (fun v2 M1 => (661 ≤ v2 ∧ v2 ≤ 665) ∧ Fr (fun k => k = 582) M M1 ∧ ∀ x, M1.2 582 x = if 661 ≤ x ∧ x < v2 then M.2 583 x else M.2 582 x) (fun v2 _ => (665 - v2).toNat)
  · intro X v2 M1 ⟨k1, k2, k3⟩ hX
    have e583 : M1.2 583 = M.2 583 := k2.2 583 (by decide)
    have e589 : M1.1 589 = b := by rw [k2.1 589 (by decide)]; exact hb
    rw [e589, e583]
    refine ⟨fun q => ?_, fun q => ⟨⟨by omega, by omega⟩, ⟨by omega, by omega⟩, fun M10 hM10 => ⟨inR_mk (by omega) (by omega), hX _ _ ⟨by omega, ?_, ?_⟩ (by omega)⟩⟩⟩
    · have e2 : v2 = 665 := by omega
      subst e2
      have hD := hR.2.2.2.2.1
      have hR1 : RT M1 tr t s fl (f, L', d) u H ps := by
        refine RT_Dk hR k2 (fun k _ h => by unfold rDkI; omega) ⟨fun j j0 j1 => ?_, ?_, ?_⟩
        · have : ¬ (661 ≤ sg j ∧ sg j < 665) := by unfold sg; split <;> omega
          unfold rv
          rw [k3, if_neg this]
          exact hD.1 j j0 j1
        · unfold Lat at hL ⊢
          rw [k3, k3, k3, k3, if_pos (by omega), if_pos (by omega), if_pos (by omega), if_pos (by omega)]
          exact hL
        · rw [k3, if_neg (by omega)]; exact hD.2.2
      refine ⟨fun qb => ⟨⟨by omega, by omega⟩, fun M3 hM3 M4 hM4 M5 hM5 M6 hM6 => ⟨⟨by omega, by omega⟩, ?_⟩⟩, fun qb => ?_⟩
      · have e578 : M6.2 578 = M1.2 578 := by rw [hM6, hM5, hM4, hM3]; rfl
        have es := hR1.2.2.1.2 6 (by omega) (by omega)
        have es : M1.2 578 7 = s.2 6 := es
        have hb6 := hs 6 (by omega) (by omega)
        rw [e578, es]
        refine ⟨inR_mk (by omega) (by omega), ⟨by omega, by omega⟩, fun M7 hM7 => ?_⟩
        have F7 : Fr (fun k => k = 577 ∨ k = 578 ∨ k = 582 ∨ k = 587 ∨ k = 612) M1 M7 := by
          rw [hM7, hM6, hM5, hM4, hM3]
          exact Fr_trans (Fr_trans (Fr_trans (Fr_trans (Fr_setA (by omega)) (Fr_setS (by omega))) (Fr_setS (by omega))) (Fr_setS (by omega))) (Fr_setA (by omega))
        refine hQ1 qb M7 (Fr_trans (Fr_mono k2 (fun k h => by omega)) F7) ?_
        obtain ⟨c1, c2, c3, c4, c5, c6, c7, c8⟩ := hR1
        have x582 : M7.2 582 = upI (M1.2 582) 665 1 := by rw [hM7, hM6, hM5, hM4, hM3]; rfl
        refine ⟨rTr_fr c1 F7 (fun k h => by unfold rTrI at h; omega), rTp_fr c2 F7 (fun k h => by unfold rTpI at h; omega), ⟨by rw [hM7, hM6]; rfl, fun j j0 j1 => ?_⟩, rFl_fr c4 F7 (fun k h => by unfold rFlI at h; omega), ⟨fun j j0 j1 => ?_, ?_, ?_⟩, ⟨by rw [hM7, hM6, hM5, hM4]; rfl, ?_⟩, ⟨⟨by rw [hM7, hM6, hM5]; rfl, AL_nil _ _⟩, ?_⟩, rPa_fr c8 F7 (fun k h => by unfold rPaI at h; omega)⟩
        · have x578 : M7.2 578 = upI (M1.2 578) 7 (s.2 6 + 1) := by rw [hM7, setA_2, if_pos rfl, e578]
          rw [x578]
          show _ = upI s.2 (-1 - (-7)) (s.2 (-1 - (-7)) + 1) j
          have e6 : (-1 - (-7) : Int) = 6 := by omega
          rw [e6]
          unfold upI
          by_cases q2 : j = 6
          · rw [if_pos (by omega), if_pos q2]
          · rw [if_neg (by omega), if_neg q2]; exact c3.2 j j0 j1
        · unfold rv
          rw [x582, upI_ne (by unfold sg; split <;> omega)]
          exact c5.1 j j0 j1
        · have := c5.2.1
          unfold Lat at this ⊢
          rw [x582, upI_ne (by omega), upI_ne (by omega), upI_ne (by omega), upI_ne (by omega)]
          exact this
        · rw [x582]; exact upI_same _ _ _
        · have : M7.1 588 = M1.1 588 := F7.1 588 (by decide)
          rw [this]; exact c6.2
        · have : M7.1 613 = M1.1 613 := F7.1 613 (by decide)
          rw [this]; exact c7.2
      · refine P_X10_tells (M := M1) hR1 ?_
        intro M' hF' hR'
        exact hQ0 qb M' (Fr_trans (Fr_mono k2 (fun k h => by omega)) (Fr_mono hF' (fun k h => by omega))) hR'
    · rw [hM10]; exact Fr_trans k2 (Fr_setA rfl)
    · intro x
      have e10 : M10.2 582 = upI (M1.2 582) v2 (M.2 583 v2) := by rw [hM10, setA_2, if_pos rfl]
      rw [e10]
      unfold upI
      by_cases q2 : x = v2
      · rw [if_pos q2, if_pos (by omega), q2]
      · rw [if_neg q2, k3]
        by_cases q3 : 661 ≤ x ∧ x < v2
        · rw [if_pos q3, if_pos (by omega)]
        · rw [if_neg q3, if_neg (by omega)]
  · refine ⟨by omega, Fr_refl M, fun x => ?_⟩
    rw [if_neg (by omega)]
theorem P_X9_giveUpAll {Q : zMem → Prop} {M : zMem} {D : (Int → Int) × Lrn × Int} (hC : CS M tr t s fl D u H ps) (hQ : ∀ M', Fr (fun k => k = 448) M M' → CS M' tr t s fl D u ([], H.2) ps → Q M') : T_X3_giveUpAll Q M := by
  unfold T_X3_giveUpAll
  intro M1 hM1
  have F1 : Fr (fun k => k = 448) M M1 := by rw [hM1]; exact Fr_setS rfl
  refine hQ M1 F1 (CS_He hC F1 (fun k _ h => by unfold cHeI; omega) ⟨⟨by rw [hM1]; rfl, AL_nil _ _⟩, ?_⟩)
  rw [F1.1 449 (by decide)]; exact hC.2.2.2.2.2.2.1.2
end
