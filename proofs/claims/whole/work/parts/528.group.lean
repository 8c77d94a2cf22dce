-- what the tape would do
def TO (tr f : Int → Int) (L : Lrn) (t : List Int) (r : Int × Int × (Int → Int) × Lrn) : Prop := (t = [] ∧ r.1 = -6 ∧ r.2.1 = 0) ∨ (∃ (es : List (List Int)) (rest : List Int), t = es.flatten ++ rest ∧ badE rest ∧ (∀ e ∈ es, eOK e) ∧ r.1 = -6 ∧ r.2.1 = es.flatten.length) ∨ (∃ es : List (List Int), t = es.flatten ∧ t ≠ [] ∧ (∀ e ∈ es, eOK e) ∧ r = gr tr es f L 0 0)
theorem TO_ex (tr f : Int → Int) (L : Lrn) {t : List Int} (hb : allB t) : ∃ r, TO tr f L t r := by
  by_cases h0 : t = []
  · exact ⟨(-6, 0, f, L), Or.inl ⟨h0, rfl, rfl⟩⟩
  · rcases tape_cases t.length t (Nat.le_refl _) hb with ⟨es, h1, h2⟩ | ⟨es, rest, h1, h2, h3⟩
    · exact ⟨_, Or.inr (Or.inr ⟨es, h1, h0, h2, rfl⟩)⟩
    · exact ⟨(-6, es.flatten.length, f, L), Or.inr (Or.inl ⟨es, rest, h1, h2, h3, rfl, rfl⟩)⟩
theorem TO_res {tr f : Int → Int} {L : Lrn} {t : List Int} {r : Int × Int × (Int → Int) × Lrn} (h : TO tr f L t r) (hg : trmOK tr) (hW : WFz f) (hL : lrnOK L) (hl : t.length ≤ 400) : (r.1 < 0 → -6 ≤ r.1 ∧ r.1 ≤ -2) ∧ (0 ≤ r.1 → r.2.1 = -1 ∧ WFz r.2.2.1 ∧ lrnOK r.2.2.2) ∧ r.1 ≤ 400 := by
  rcases h with ⟨_, h1, h2⟩ | ⟨es, rest, _, _, _, h1, h2⟩ | ⟨es, h1, h2, h3, h4⟩
  · exact ⟨fun _ => by omega, fun q => by omega, by omega⟩
  · exact ⟨fun _ => by omega, fun q => by omega, by omega⟩
  · obtain ⟨g1, g2⟩ := gr_res hg es f L 0 0 h3 hW hL (by omega) (by omega)
    rw [← h4] at g1 g2
    refine ⟨fun q => by have := (g1 q).1; omega, fun q => (g2 q).2, ?_⟩
    by_cases q : 0 ≤ r.1
    · have := (g2 q).1
      have h5 := flat_len h3
      rw [← h1] at h5
      omega
    · omega
theorem P_reh {tr f : Int → Int} {L : Lrn} {t : List Int} {r : Int × Int × (Int → Int) × Lrn} {Q : Int → zMem → Prop} {M : zMem} (hr : TO tr f L t r) (hT : cTp M t) (hl : t.length ≤ 400) (hb : allB t) (hf : agr (M.2 64) f) (hW : WFz f) (ht : agT (M.2 0) tr) (hg : trmOK tr) (hL : lrnOK L) (hLat : Lat (M.2 1) 0 L)
    (hQ0 : r.1 < 0 → ∀ M', Fr fRh M M' → M'.1 8 = r.2.1 → Q r.1 M')
    (hQ1 : 0 ≤ r.1 → ∀ M', Fr fRh M M' → M'.1 8 = -1 → agr (M'.2 128) r.2.2.1 → Lat (M'.2 129) 0 r.2.2.2 → (∀ p, 0 ≤ p → p < 10 → (dfB r.2.2.1 f p → M'.2 130 p = 1) ∧ (¬ dfB r.2.2.1 f p → M'.2 130 p = 0)) → Q r.1 M') : T_X9_rehearse Q M := by
  rcases hr with ⟨h0, h1, h2⟩ | ⟨es, rest, h0, h3, h4, h1, h2⟩ | ⟨es, h1, h2, h3, h4⟩
  · apply P_X9_rehearse_nil (by rw [hT.1, h0]; rfl)
    intro M' hF' h8
    have := hQ0 (by omega) M' hF' (by rw [h2]; exact h8)
    rw [h1] at this
    exact this
  · subst h0
    apply P_X9_rehearse_no hT.2 hT.1 hl h3 h4 hb
    intro M' hF' h8
    have := hQ0 (by omega) M' hF' (by rw [h2]; exact h8)
    rw [h1] at this
    exact this
  · subst h1
    have e := gr_agT ht es f L 0 0
    apply P_X9_rehearse_ok hT.2 hT.1 hl h2 h3 hb hf hW (trmOK_agT (agT_symm ht) hg) hL hLat
    · rw [e, ← h4]; exact hQ0
    · rw [e, ← h4]; exact hQ1
theorem P_dra {tr f : Int → Int} {L : Lrn} {t : List Int} {r : Int × Int × (Int → Int) × Lrn} {Q : Int → zMem → Prop} {M : zMem} (hr : TO tr f L t r) (hT : AL (M.2 584) 0 t) (hl : t.length ≤ 400) (hb : allB t) (hf : agr (M.2 582) f) (hW : WFz f) (ht : agT (M.2 579) tr) (hg : trmOK tr) (hL : lrnOK L) (hLat : Lat (M.2 582) 661 L)
    (hQ0 : r.1 < 0 → ∀ M', Fr fDd M M' → M'.1 615 = r.2.1 → Q r.1 M')
    (hQ1 : 0 ≤ r.1 → ∀ M', Fr fDd M M' → M'.1 615 = -1 → agr (M'.2 583) r.2.2.1 → Lat (M'.2 583) 661 r.2.2.2 → (0 ≤ M'.1 606 ∧ M'.1 606 < 1024) → (∀ p, 0 ≤ p → p < 10 → (dfB r.2.2.1 f p → bt (M'.1 606) p = 1) ∧ (¬ dfB r.2.2.1 f p → bt (M'.1 606) p = 0)) → Q r.1 M') : T_X10_drafted t.length Q M := by
  rcases hr with ⟨h0, h1, h2⟩ | ⟨es, rest, h0, h3, h4, h1, h2⟩ | ⟨es, h1, h2, h3, h4⟩
  · rw [h0]
    refine P_X10_drafted_nil (fun M' hF' h8 => ?_)
    have := hQ0 (by omega) M' hF' (by rw [h2]; exact h8)
    rw [h1] at this
    exact this
  · subst h0
    apply P_X10_drafted_no hT hl h3 h4 hb
    intro M' hF' h8
    have := hQ0 (by omega) M' hF' (by rw [h2]; exact h8)
    rw [h1] at this
    exact this
  · subst h1
    have e := gr_agT ht es f L 0 0
    apply P_X10_drafted_ok hT hl h2 h3 hb hf hW (trmOK_agT (agT_symm ht) hg) hL hLat
    · rw [e, ← h4]; exact hQ0
    · rw [e, ← h4]; exact hQ1
noncomputable def dfN (F f : Int → Int) (p : Int) : Int := @ite _ (dfB F f p) (Classical.propDecidable _) 1 0
theorem dfN_t {F f : Int → Int} {p : Int} (h : dfB F f p) : dfN F f p = 1 := @if_pos _ (Classical.propDecidable _) h _ _ _
theorem dfN_f {F f : Int → Int} {p : Int} (h : ¬ dfB F f p) : dfN F f p = 0 := @if_neg _ (Classical.propDecidable _) h _ _ _
theorem dfN_01 (F f : Int → Int) (p : Int) : dfN F f p = 0 ∨ dfN F f p = 1 := by
  by_cases h : dfB F f p
  · exact Or.inr (dfN_t h)
  · exact Or.inl (dfN_f h)
theorem dfN_of {F f : Int → Int} {p x : Int} (h : (dfB F f p → x = 1) ∧ (¬ dfB F f p → x = 0)) : x = dfN F f p := by
  by_cases q : dfB F f p
  · rw [dfN_t q]; exact h.1 q
  · rw [dfN_f q]; exact h.2 q
theorem DOK_grp {f F : Int → Int} {n : Nat} (hW : WFz f) (h0 : f 661 = 0) (hF : WFz F) : (n < (tj F (pgsTo (dfN F f) 10)).length → DOK (apw f ((tj F (pgsTo (dfN F f) 10)).take n)) 1) ∧ DOK (apw f (tj F (pgsTo (dfN F f) 10))) 0 := by
  refine DOK_tj2 hW h0 hF (fun p hp => (pgsTo_mem.mp hp).1) (pgsTo_len _ _) (fun j j0 j1 hj => ?_)
  by_cases q : f j = F j
  · exact q
  · exact absurd ⟨by omega, by omega⟩ (hj (j / 64) (pgsTo_mem.mpr ⟨by omega, dfN_t ⟨j, by omega, by omega, fun e => q e.symm⟩⟩))
theorem fRh_sc : ∀ k, fRh k → k = 4 ∨ k = 8 ∨ k = 67 ∨ (128 ≤ k ∧ k < 448) := fun k h => by unfold fRh fBg fEd fLd fTb fUn fSp fTy fPb fPk at h; omega
theorem fRh_cl : ∀ k, fRh k → k < 576 ∨ 640 ≤ k := fun k h => by have := fRh_sc k h; omega
theorem fDd_sc : ∀ k, fDd k → k = 576 ∨ k = 583 ∨ (589 ≤ k ∧ k ≤ 606) ∨ k = 614 ∨ k = 615 := fun k h => by unfold fDd fDr fEr fLr fTr fUr fSg fSr fTyr fRp at h; omega
theorem fDd_rf : ∀ k, fDd k → 576 ≤ k ∧ k < 640 := fun k h => by have := fDd_sc k h; omega
section
variable {tr : Int → Int} {t : List Int} {s : Int × (Int → Int)} {fl : Int} {f : Int → Int} {L L' : Lrn} {d : Int} {u : Int × Int} {H : List Int × Int} {ps : List Mom}
-- the end of a group, of compact: none is held
theorem P_R_fin2 {v N : Int} {ws : List (Int × Int)} {Q : Int → zMem → Prop} {M M' M2 : zMem} (hN : N ≤ 100000) (hR : RT M tr t s fl (f, L, d) u H ps) (hs : ∀ j, 0 ≤ j → j < 7 → 0 ≤ s.2 j ∧ s.2 j ≤ N) (hw : WR M M' ws) (hM2 : M2 = setS M' 612 0) (hL : Lat (M.2 583) 661 L')
    (hQb : blw u.1 ws.length → ∀ M2, Fr (fun k => 576 ≤ k ∧ k < 640) M M2 → RT M2 tr t (rfS (-7) s) fl (apw f (ws.take (nwr u.1 ws.length)), L', 1) (-1, nwr u.1 ws.length) ([], H.2) ps → Q (-7) M2)
    (hQa : ¬ blw u.1 ws.length → ∀ M2, Fr (fun k => 576 ≤ k ∧ k < 640) M M2 → RT M2 tr t (acS s) fl (apw f ws, L', d) (fuN u.1 ws.length, ws.length) ([], H.2) ps → Q v M2) : T_X10_ends v (fun y M3 => Q y M3) M2 := by
  have F2 : Fr (fun k => k = 612) M' M2 := by rw [hM2]; exact Fr_setS rfl
  have FF : Fr (fun k => 576 ≤ k ∧ k < 640) M M2 := Fr_trans (Fr_mono hw.1 (fun k h => by unfold fWr at h; omega)) (Fr_mono F2 (fun k h => by omega))
  obtain ⟨w1, w2⟩ := WR_RT hR hw
  have hL2 : Lat (M2.2 583) 661 L' := by rw [F2.2 583 (by decide), hw.1.2 583 (by unfold fWr; omega)]; exact hL
  have e589 : M2.1 589 = M'.1 589 := F2.1 589 (by decide)
  have clr : ∀ {D u}, RT M' tr t s fl D u H ps → RT M2 tr t s fl D u ([], H.2) ps := fun h => RT_He h F2 (fun k _ h => by unfold rHeI; omega) ⟨⟨by rw [hM2]; rfl, AL_nil _ _⟩, by rw [F2.1 613 (by decide)]; exact h.2.2.2.2.2.2.1.2⟩
  by_cases hbl : blw u.1 ws.length
  · obtain ⟨hR', h589⟩ := w1 hbl
    apply P_X10_ends (b := 1) hN (clr hR') hs (by rw [e589]; exact h589) hL2
    · intro _ M3 hF3 hR3
      exact hQb hbl M3 (Fr_trans FF (Fr_mono hF3 (fun k h => by omega))) hR3
    · intro h; omega
  · obtain ⟨hR', h589⟩ := w2 hbl
    apply P_X10_ends (b := 0) hN (clr hR') hs (by rw [e589]; exact h589) hL2
    · intro h; exact absurd rfl h
    · intro _ M3 hF3 hR3
      exact hQa hbl M3 (Fr_trans FF (Fr_mono hF3 (fun k h => by omega))) hR3
end
theorem I_group {N : Int} {M : zMem} (h : Inv N M) (hN : N ≤ 1000) : T_X9_group (fun r M1 => T_X10_group (fun r' M2 => G N r r' M2) M1) M := by
  obtain ⟨tr, t, s, fl, ⟨f, L, d⟩, u, H, ps, hC, hR, hO⟩ := h
  have hs := hO.2.2.1
  have hg := hO.1
  have hLk : lrnOK L := hO.2.2.2.1.2
  have hd := DOK_d hO.2.2.2.1.1
  have ho2 := hO.2.1
  have hh := hO.2.2.2.2.2.1
  have h4 := hg.2.2.2.2
  unfold T_X9_group
  rw [hC.2.2.2.2.1.2.2]
  refine ⟨fun hdn => ?_, fun hdn => ?_⟩
  · have hdn : d = 0 := hdn
    subst hdn
    obtain ⟨hW, h661⟩ : WFz f ∧ f 661 = 0 := OK_z hO rfl
    obtain ⟨r, hr⟩ := TO_ex tr f L ho2.2
    obtain ⟨t1, t2, t3⟩ := TO_res hr hg hW hLk ho2.1
    -- the reference up to the draft
    have rdr : ∀ (K : Int → zMem → Prop) (M3 : zMem), RT M3 tr t s fl (f, L, 0) u H ps → (r.1 < 0 → ∀ M7, Fr (fun k => 576 ≤ k ∧ k < 640) M3 M7 → RT M7 tr [] s r.2.1 (f, L, 0) u H ps → T_X10_refuses r.1 (fun y M => K y M) M7) → (0 ≤ r.1 → ∀ M7, Fr (fun k => 576 ≤ k ∧ k < 640) M3 M7 → RT M7 tr [] s r.2.1 (f, L, 0) u H ps → agr (M7.2 583) r.2.2.1 → Lat (M7.2 583) 661 r.2.2.2 → (0 ≤ M7.1 606 ∧ M7.1 606 < 1024) → (∀ p, 0 ≤ p → p < 10 → bt (M7.1 606) p = dfN r.2.2.1 f p) → T_X10_keeps 4 (fun M9 => T_X10_beginsWriting (fun M10 => T_X10_throughJournal (fun M11 => ∀ M12 : zMem, M12 = setS M11 612 0 → T_X10_ends r.1 (fun y13 M14 => K y13 M14) M12) M10) M9) M7) → T_X10_group K M3 := by
      intro K M3 hR3 k0 k1
      unfold T_X10_group
      intro M1 hM1
      have F1 : Fr (fun k => 576 ≤ k ∧ k < 640) M3 M1 := by rw [hM1]; exact Fr_setS (by omega)
      have hR1 := RT_576 hR3 hM1
      apply P_X10_isDown hR1.2.2.2.2.1.2.2 hd
      refine ⟨fun _ M4 hM4 => ?_, fun q => absurd rfl q⟩
      have F4 : Fr (fun k => k = 585) M1 M4 := by rw [hM4]; exact Fr_setS rfl
      have hR4 : RT M4 tr [] s fl (f, L, 0) u H ps := RT_Tp hR1 F4 (fun k _ h => by unfold rTpI; omega) ⟨by rw [hM4]; rfl, AL_nil _ _⟩
      have e584 : M4.2 584 = M1.2 584 := F4.2 584 (by decide)
      rw [hR1.2.1.1]
      have fin : ∀ M6 M7, Fr fDd M4 M6 → M6.1 615 = r.2.1 → M7 = setS M6 586 (M6.1 615) → Fr (fun k => 576 ≤ k ∧ k < 640) M3 M7 ∧ RT M7 tr [] s r.2.1 (f, L, 0) u H ps ∧ M7.2 = M6.2 ∧ M7.1 606 = M6.1 606 := by
        intro M6 M7 hF6 h615 hM7
        have F7 : Fr (fun k => k = 586) M6 M7 := by rw [hM7]; exact Fr_setS rfl
        refine ⟨Fr_trans (Fr_trans (Fr_trans F1 (Fr_mono F4 (fun k h => by omega))) (Fr_mono hF6 fDd_rf)) (Fr_mono F7 (fun k h => by omega)), RT_Fl (RT_sc hR4 hF6 fDd_sc) F7 (fun k _ h => by unfold rFlI; omega) (by rw [hM7]; exact h615), by rw [hM7]; rfl, F7.1 606 (by decide)⟩
      apply P_dra hr (by rw [e584]; exact hR1.2.1.2) ho2.1 ho2.2 (agr_r hR4) hW hR4.1.1 hg hLk hR4.2.2.2.2.1.2.1
      · intro hneg M6 hF6 h615 M7 hM7
        obtain ⟨f1, f2, f3, f4⟩ := fin M6 M7 hF6 h615 hM7
        exact ⟨fun q => by omega, fun _ => k0 hneg M7 f1 f2⟩
      · intro hpos M6 hF6 h615 w1 w2 w3 w4 M7 hM7
        obtain ⟨f1, f2, f3, f4⟩ := fin M6 M7 hF6 (by rw [h615]; exact (t2 hpos).1.symm) hM7
        refine ⟨fun _ => k1 hpos M7 f1 f2 (by rw [f3]; exact w1) (by rw [f3]; exact w2) (by rw [f4]; exact w3) (fun p p0 p1 => ?_), fun q => by omega⟩
        rw [f4]; exact dfN_of (w4 p p0 p1)
    apply P_reh hr hC.2.1 ho2.1 ho2.2 (agr_c hC) hW hC.1 hg hLk hC.2.2.2.2.1.2.1
    · intro hneg M3 hF3 h8 M4 hM4 M5 hM5
      have hcd := t1 hneg
      have F4 : Fr (fun k => k = 7) M3 M4 := by rw [hM4]; exact Fr_setS rfl
      have F5 : Fr (fun k => k = 3) M4 M5 := by rw [hM5]; exact Fr_setS rfl
      have hC5 : CS M5 tr [] s r.2.1 (f, L, 0) u H ps := CS_Tp (CS_Fl (CS_sc hC hF3 fRh_sc) F4 (fun k _ h => by unfold cFlI; omega) (by rw [hM4]; exact h8)) F5 (fun k _ h => by unfold cTpI; omega) ⟨by rw [hM5]; rfl, AL_nil _ _⟩
      have hR5 := RT_cl (RT_cl (RT_cl hR hF3 fRh_cl) F4 (fun k h => by omega)) F5 (fun k h => by omega)
      refine ⟨fun q => by omega, fun _ => ?_⟩
      apply P_X9_refuse (by omega) hs (by omega) hC5
      intro M10 hF10 hC10
      apply rdr _ M10 (RT_cl hR5 hF10 (fun k h => by omega))
      · intro _ M7 hF7 hR7
        refine ref_r3 hN (by omega) (CS_rf hC10 hF7 (fun k h => h)) hR7 hs ?_
        obtain ⟨o1, o2, o3, o4, o5, o6, o7⟩ := OKS_mono hO (N' := N + 1) (by omega)
        exact ⟨o1, ⟨by simp, allB_nil⟩, o3, o4, o5, o6, o7⟩
      · intro h; omega
    · intro hpos M3 hF3 h8 w1 w2 w3 M4 hM4 M5 hM5
      obtain ⟨u1, u2, u3⟩ := t2 hpos
      have hl10 := u2.1.1
      have F4 : Fr (fun k => k = 7) M3 M4 := by rw [hM4]; exact Fr_setS rfl
      have F5 : Fr (fun k => k = 3) M4 M5 := by rw [hM5]; exact Fr_setS rfl
      have s5 : M5.2 = M3.2 := by rw [hM5, hM4]; rfl
      have hC5 : CS M5 tr [] s r.2.1 (f, L, 0) u H ps := CS_Tp (CS_Fl (CS_sc hC hF3 fRh_sc) F4 (fun k _ h => by unfold cFlI; omega) (by rw [hM4, u1]; exact h8)) F5 (fun k _ h => by unfold cTpI; omega) ⟨by rw [hM5]; rfl, AL_nil _ _⟩
      have hR5 := RT_cl (RT_cl (RT_cl hR hF3 fRh_cl) F4 (fun k h => by omega)) F5 (fun k h => by omega)
      have hdok := fun n => DOK_grp (n := n) hW h661 u2
      refine ⟨fun _ => ?_, fun q => by omega⟩
      -- the reference, once the class is through
      have rfin : ∀ (K : Int → zMem → Prop) (M10 : zMem), RT M10 tr t s fl (f, L, 0) u H ps →
          (blw u.1 (tj r.2.2.1 (pgsTo (dfN r.2.2.1 f) 10)).length → ∀ M2, Fr (fun k => 576 ≤ k ∧ k < 640) M10 M2 → RT M2 tr [] (rfS (-7) s) r.2.1 (apw f ((tj r.2.2.1 (pgsTo (dfN r.2.2.1 f) 10)).take (nwr u.1 (tj r.2.2.1 (pgsTo (dfN r.2.2.1 f) 10)).length)), r.2.2.2, 1) (-1, nwr u.1 (tj r.2.2.1 (pgsTo (dfN r.2.2.1 f) 10)).length) ([], H.2) (kpF (4, 0, f, L) ps) → K (-7) M2) →
          (¬ blw u.1 (tj r.2.2.1 (pgsTo (dfN r.2.2.1 f) 10)).length → ∀ M2, Fr (fun k => 576 ≤ k ∧ k < 640) M10 M2 → RT M2 tr [] (acS s) r.2.1 (apw f (tj r.2.2.1 (pgsTo (dfN r.2.2.1 f) 10)), r.2.2.2, 0) (fuN u.1 (tj r.2.2.1 (pgsTo (dfN r.2.2.1 f) 10)).length, (tj r.2.2.1 (pgsTo (dfN r.2.2.1 f) 10)).length) ([], H.2) (kpF (4, 0, f, L) ps) → K r.1 M2) → T_X10_group K M10 := by
        intro K M10 hR10 kb ka
        apply rdr K M10 hR10
        · intro h; omega
        · intro _ M7 hF7 hR7 x1 x2 x3 x4
          have hDk := hR7.2.2.2.2.1
          apply P_X10_keeps hR7.2.2.2.2.2.2.2 hDk.1 hDk.2.2 hDk.2.1
          intro M14 hF14 hP14
          have hR14 : RT M14 tr [] s r.2.1 (f, L, 0) u H (kpF (4, 0, f, L) ps) := RT_Pa hR7 hF14 (fun k _ h => by unfold fPR at h; unfold rPaI; omega) hP14
          have FF14 : Fr (fun k => 576 ≤ k ∧ k < 640) M10 M14 := Fr_trans hF7 (Fr_mono hF14 (fun k h => by unfold fPR at h; omega))
          have y583 : M14.2 583 = M7.2 583 := hF14.2 583 (by unfold fPR; omega)
          have y606 : M14.1 606 = M7.1 606 := hF14.1 606 (by unfold fPR; omega)
          refine P_X10_beginsWriting (M := M14) (by rw [hR14.2.2.2.2.2.1.1]; exact hO.2.2.2.2.1.1) ?_
          intro M15 hw15
          refine P_X10_throughJournal (b := dfN r.2.2.1 f) hw15 (by rw [y583]; exact x1) hl10 (fun p p0 p1 => ⟨by rw [y606]; exact x4 p p0 p1, dfN_01 _ _ _⟩) rfl ?_
          intro M17 hw17 M12 hM12
          apply P_R_fin2 (by omega : N ≤ 100000) hR14 hs hw17 hM12 (by rw [y583]; exact x2)
          · intro hbl M2 hF2 hR2
            exact kb hbl M2 (Fr_trans FF14 hF2) hR2
          · intro hbl M2 hF2 hR2
            exact ka hbl M2 (Fr_trans FF14 hF2) hR2
      have cl : ∀ {M1 : zMem}, Fr (fun k => k < 576 ∨ 1024 ≤ k) M5 M1 → RT M1 tr t s fl (f, L, 0) u H ps := fun hF => RT_cl hR5 hF (fun k h => by omega)
      refine P_X9_carryOut (by omega : N ≤ 100000) hC5 hs (by omega) hO.2.2.2.2.1.1 (by rw [s5]; exact w2) (by rw [s5]; exact w1) hl10 (fun p p0 p1 => ⟨by rw [s5]; exact dfN_of (w3 p p0 p1), dfN_01 _ _ _⟩) rfl (DOK_dir (hdok 0).2) ?_ ?_
      · intro hbl M1 hF1 hC1
        apply rfin _ M1 (cl hF1)
        · intro _ M2 hF2 hR2
          refine G_in (CS_rf hC1 hF2 (fun k h => h)) hR2 (rfS_ok (by omega) hs (OKS_b hO ⟨by simp, allB_nil⟩ ((hdok _).1 ?_) u3 ⟨hh.2.1, by omega⟩))
          have := nwr_blw hbl; omega
        · intro h; exact absurd hbl h
      · intro hbl M1 hF1 hC1
        rw [if_pos (Or.inl rfl)] at hC1
        apply rfin _ M1 (cl hF1)
        · intro h; exact absurd h hbl
        · intro _ M2 hF2 hR2
          exact G_in (CS_rf hC1 hF2 (fun k h => h)) hR2 (OKS_a hO ⟨by simp, allB_nil⟩ (hdok 0).2 u3 hbl (by show ((([] : List Int).length : Nat) : Int) ≤ _; rw [List.length_nil]; omega) ⟨hh.2.1, by omega⟩)
  · apply P_X9_refuse (by omega) hs (by omega) hC
    intro M3 hF3 hC3
    have hR3 := RT_cl hR hF3 (fun k h => by omega)
    unfold T_X10_group
    intro M1 hM1
    have hR1 := RT_576 hR3 hM1
    apply P_X10_isDown hR1.2.2.2.2.1.2.2 hd
    exact ⟨fun q => absurd q hdn, fun _ => ref_r hN (by omega) (CS_576 hC3 hM1) hR1 hO⟩
