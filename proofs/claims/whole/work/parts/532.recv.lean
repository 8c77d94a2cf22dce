theorem JW_agD {a f F : Int → Int} {ps : List Int} (h : agD a f) (hJ : JW f F ps) : JW a F ps := by
  obtain ⟨j1, j2, j3, j4, j5, j6, j7, j8⟩ := hJ
  have hu := j6.1.1
  have hD : ((dirN F : Nat) : Int) = 1 + 2 * F 640 := by unfold dirN; omega
  refine ⟨by rw [h _ (by omega) (by omega)]; exact j1, by rw [h _ (by omega) (by omega)]; exact j2, fun i p hip => ?_, fun k k0 k1 => ?_, fun j a b c d => by rw [h _ a (by omega)]; exact j5 j a b c d, j6, j7, j8⟩
  · have hil := (List.getElem?_eq_some_iff.mp hip).1
    obtain ⟨x, y⟩ := j3 i p hip
    exact ⟨by rw [h _ (by omega) (by omega)]; exact x, fun k k0 k1 => by rw [h _ (by omega) (by omega)]; exact y k k0 k1⟩
  · rw [h _ (by omega) (by omega)]; exact j4 k k0 k1
theorem preR_agD {a f : Int → Int} {pre : List (Int × Int)} (h : agD a f) (hp : preR f pre) : preR a pre := by
  rcases hp with ⟨h1, h2⟩ | ⟨F, ps, h1, h2⟩
  · exact Or.inl ⟨by rw [h _ (by omega) (by omega)]; exact h1, h2⟩
  · exact Or.inr ⟨F, ps, JW_agD h h1, h2⟩
theorem clK_congr {g g' : Int → Int} {e : Int} : ∀ (n : Nat), (∀ k : Nat, k < n → g (e + k) = g' (e + k)) → clK g e n = clK g' e n
  | 0, _ => rfl
  | n + 1, h => by
    rw [clK, clK, h n (by omega), clK_congr n (fun k hk => h k (by omega))]
theorem clL_agr {g g' : Int → Int} {W : WT} (h : agr g g') (hD : DirOK g) : ∀ n : Nat, (n : Int) ≤ g 640 → clL g W n = clL g' W n
  | 0, _ => rfl
  | n + 1, hn => by
    have hu := hD.1
    have hp := hD.2.1 n (by omega) (by omega)
    have e1 := h (641 + 2 * (n : Int)) (by omega) (by omega)
    have e2 : endW g W n = endW g' W n := by unfold endW; rw [e1]
    have h0 : 0 ≤ endW g W n - 64 * g (641 + 2 * n) := by unfold endW; omega
    rw [clL, clL, clL_agr h hD n (by omega), ← e2, ← e1]
    congr 1
    exact clK_congr _ (fun k hk => h _ (by omega) (by omega))
theorem agr_of {a f : Int → Int} (h : agD a f) : agr a f := fun j x y => h j x (by omega)
theorem PgA_agr {g g' : Int → Int} {W : WT} (h : agr g g') (hu : g 640 ≤ 10) (hW : PgA g W) : PgA g' W := by
  intro i i0 i1
  rw [← h 640 (by omega) (by omega)] at i1
  exact PgX_agr h hu ⟨i0, i1⟩ (hW i i0 i1)
theorem I_recover {N : Int} {M : zMem} (h : Inv N M) (hN : N ≤ 1000) : T_X9_recover (fun r M1 => T_X10_recover (fun r' M2 => G N r r' M2) M1) M := by
  obtain ⟨tr, t, s, fl, ⟨f, L, d⟩, u, H, ps, hC, hR, hO⟩ := h
  have hs := hO.2.2.1
  have hLk : lrnOK L := hO.2.2.2.1.2
  have hd := DOK_d hO.2.2.2.1.1
  have ho2 := hO.2.1
  have hh := hO.2.2.2.2.2.1
  have h4 := hO.1.2.2.2.2
  have hdo : DOK f d := hO.2.2.2.1.1
  have hfr : inR u.1 := hO.2.2.2.2.1.1
  unfold T_X9_recover
  rw [hC.2.2.2.2.1.2.2]
  refine ⟨fun hdn => ?_, fun hdn => ?_⟩
  · have hdn : d = 1 := by rcases hd with h | h; exact absurd h hdn; exact h
    subst hdn
    obtain ⟨pre, hpre, hWi, h661, hpl⟩ := pre_ex hdo
    obtain ⟨g0, hg0⟩ : ∃ g0, g0 = apw f pre := ⟨_, rfl⟩
    rw [← hg0] at hWi h661
    have hu0 := hWi.1.1
    obtain ⟨W, hWA⟩ : ∃ W : WT, PgA g0 W := by
      have : ∀ i, ∃ w : List Int × List (List Int) × RS, 0 ≤ i → i < g0 640 → PgX g0 i w.1 w.2.1 w.2.2 := by
        intro i
        by_cases q : 0 ≤ i ∧ i < g0 640
        · obtain ⟨pkd, es, rs, hP⟩ := hWi.2.2 i q.1 q.2
          exact ⟨(pkd, es, rs), fun _ _ => hP⟩
        · exact ⟨([], [], []), fun a b => absurd ⟨a, b⟩ q⟩
      exact ⟨fun i => Classical.choose (this i), fun i => Classical.choose_spec (this i)⟩
    obtain ⟨RL, hRL⟩ : ∃ RL, RL = pre ++ clL g0 W (g0 640).toNat := ⟨_, rfl⟩
    have hdok := fun n => DOK_rec (n := n) hpre hg0 hWi h661 hWA
    rw [← hRL] at hdok
    -- for any row that is so
    have same : ∀ a, agD a f → preR a pre ∧ WFi (apw a pre) ∧ PgA (apw a pre) W ∧ pre ++ clL (apw a pre) W (apw a pre 640).toNat = RL := by
      intro a ha
      have hag : agr (apw a pre) g0 := by rw [hg0]; exact agr_of (apw_agD ha pre)
      have hga := agr_symm hag
      refine ⟨preR_agD ha hpre, WFi_agr hga hWi, PgA_agr hga hu0.2 hWA, ?_⟩
      have e640 := hag 640 (by omega) (by omega)
      have hD := agr_dir hga hWi.1
      rw [e640, hRL, clL_agr hag hD _ (by rw [e640]; omega)]
    -- the reference
    have rfin : ∀ (K : Int → zMem → Prop) (M3 : zMem), RT M3 tr t s fl (f, L, 1) u H ps →
        (blw u.1 RL.length → ∀ M2, Fr (fun k => 576 ≤ k ∧ k < 640) M3 M2 → RT M2 tr t (rfS (-7) s) fl (apw f (RL.take (nwr u.1 RL.length)), L, 1) (-1, nwr u.1 RL.length) ([], H.2) (kpF (6, 1, f, L) ps) → K (-7) M2) →
        (¬ blw u.1 RL.length → ∀ M2, Fr (fun k => 576 ≤ k ∧ k < 640) M3 M2 → RT M2 tr t (acS s) fl (apw f RL, L, 0) (fuN u.1 RL.length, RL.length) ([], H.2) (kpF (6, 1, f, L) ps) → K RL.length M2) → T_X10_recover K M3 := by
      intro K M3 hR3 kb ka
      unfold T_X10_recover
      intro M13 hM13
      have F13 : Fr (fun k => 576 ≤ k ∧ k < 640) M3 M13 := by rw [hM13]; exact Fr_setS (by omega)
      have hR13 := RT_576 hR3 hM13
      apply P_X10_isDown hR13.2.2.2.2.1.2.2 hd
      refine ⟨fun _ => ?_, fun q => by omega⟩
      have hDk := hR13.2.2.2.2.1
      apply P_X10_keeps hR13.2.2.2.2.2.2.2 hDk.1 hDk.2.2 hDk.2.1
      intro M16 hF16 hP16
      have hR16 : RT M16 tr t s fl (f, L, 1) u H (kpF (6, 1, f, L) ps) := RT_Pa hR13 hF16 (fun k _ h => by unfold fPR at h; unfold rPaI; omega) hP16
      apply P_X10_drafts
      intro M17 hF17 d1 d2
      have hR17 := RT_sc hR16 hF17 (fun k h => by unfold fDr at h; omega)
      have FF17 : Fr (fun k => 576 ≤ k ∧ k < 640) M3 M17 := Fr_trans (Fr_trans F13 (Fr_mono hF16 (fun k h => by unfold fPR at h; omega))) (Fr_mono hF17 (fun k h => by unfold fDr at h; omega))
      have hLat17 : Lat (M17.2 583) 661 L := by
        have := hR16.2.2.2.2.1.2.1
        unfold Lat at this ⊢
        rw [d1 661 (by omega) (by omega), d1 (661 + 1) (by omega) (by omega), d1 (661 + 2) (by omega) (by omega), d1 (661 + 3) (by omega) (by omega)]
        exact this
      obtain ⟨s1, s2, s3, s4⟩ := same (rv M17) hR17.2.2.2.2.1.1
      refine P_X10_beginsWriting (M := M17) (by rw [hR17.2.2.2.2.2.1.1]; exact hfr) ?_
      intro M18 hw18
      have r87 : ∀ M5, WR M17 M5 RL → T_X10_recover_87 K M5 := by
        intro M5 hw5
        obtain ⟨w1, w2⟩ := WR_RT hR17 hw5
        have FF5 : Fr (fun k => 576 ≤ k ∧ k < 640) M3 M5 := Fr_trans FF17 (Fr_mono hw5.1 (fun k h => by unfold fWr at h; omega))
        have hL5 : Lat (M5.2 583) 661 L := by rw [hw5.1.2 583 (by unfold fWr; omega)]; exact hLat17
        unfold T_X10_recover_87
        intro M6 hM6
        have F6 : Fr (fun k => k = 612) M5 M6 := by rw [hM6]; exact Fr_setS rfl
        have e589 : M6.1 589 = M5.1 589 := F6.1 589 (by decide)
        have hL6 : Lat (M6.2 583) 661 L := by rw [F6.2 583 (by decide)]; exact hL5
        have clr : ∀ {D u ps'}, RT M5 tr t s fl D u H ps' → RT M6 tr t s fl D u ([], H.2) ps' := fun h => RT_He h F6 (fun k _ h => by unfold rHeI; omega) ⟨⟨by rw [hM6]; rfl, AL_nil _ _⟩, by rw [F6.1 613 (by decide)]; exact h.2.2.2.2.2.2.1.2⟩
        by_cases hbl : blw u.1 RL.length
        · obtain ⟨hR5, h589⟩ := w1 hbl
          refine ⟨fun _ => ?_, fun q => by omega⟩
          apply P_X10_ends (b := 1) (by omega : N ≤ 100000) (clr hR5) hs (by rw [e589]; exact h589) hL6
          · intro _ M2 hF2 hR2
            exact kb hbl M2 (Fr_trans (Fr_trans FF5 (Fr_mono F6 (fun k h => by omega))) (Fr_mono hF2 (fun k h => by omega))) hR2
          · intro h; omega
        · obtain ⟨hR5, h589⟩ := w2 hbl
          refine ⟨fun q => by omega, fun _ => ⟨⟨by omega, by omega⟩, fun M7 hM7 => ?_⟩⟩
          have F7 : Fr (fun k => k = 582) M6 M7 := by rw [hM7]; exact Fr_setA rfl
          have hR6 := clr hR5
          have e582 : M7.2 582 = upI (M6.2 582) 665 0 := by rw [hM7, setA_2, if_pos rfl]
          have hR7 : RT M7 tr t s fl (apw f RL, L, 0) (fuN u.1 RL.length, RL.length) ([], H.2) (kpF (6, 1, f, L) ps) := by
            have hD6 := hR6.2.2.2.2.1
            refine RT_Dk hR6 F7 (fun k _ h => by unfold rDkI; omega) ⟨fun j j0 j1 => ?_, ?_, by rw [e582]; exact upI_same _ _ _⟩
            · unfold rv
              rw [e582, upI_ne (by unfold sg; split <;> omega)]
              exact hD6.1 j j0 j1
            · have := hD6.2.1
              unfold Lat at this ⊢
              rw [e582, upI_ne (by omega), upI_ne (by omega), upI_ne (by omega), upI_ne (by omega)]
              exact this
          have e588 : M7.1 588 = RL.length := hR7.2.2.2.2.2.1.2
          rw [e588]
          apply P_X10_ends (b := 0) (by omega : N ≤ 100000) hR7 hs (by rw [F7.1 589 (by decide), e589]; exact h589) (by rw [F7.2 583 (by decide)]; exact hL6)
          · intro h; exact absurd rfl h
          · intro _ M2 hF2 hR2
            exact ka hbl M2 (Fr_trans (Fr_trans (Fr_trans FF5 (Fr_mono F6 (fun k h => by omega))) (Fr_mono F7 (fun k h => by omega))) (Fr_mono hF2 (fun k h => by omega))) hR2
      have r49 : ∀ M5, WR M17 M5 pre → T_X10_recover_49 K M5 := by
        intro M5 hw5
        unfold T_X10_recover_49
        refine P_X10_recover_51 hw5 rfl s2.1 s2.2.1 s3 (by omega) (fun M6 h6 => r87 M6 ?_)
        rw [s4] at h6
        exact h6
      have e666 : M18.2 582 666 = rv M17 661 := by
        rw [hw18.2.1, List.take_nil]
        exact rv_hi (x := 661) (by omega) (by omega)
      rw [e666]
      refine ⟨⟨by omega, by omega⟩, fun q => ?_, fun q => ?_⟩
      · rcases s1 with ⟨_, hp⟩ | ⟨F, pp, hJ, _⟩
        · exact r49 M18 (by rw [hp]; exact hw18)
        · exact absurd hJ.1 q
      · rcases s1 with ⟨h0, _⟩ | ⟨F, pp, hJ, hp⟩
        · omega
        · refine P_X10_comesBack hw18 hJ (fun M5 h5 => r49 M5 ?_)
          rw [hp]; exact h5
    -- the class
    have hDc := hC.2.2.2.2.1
    apply P_X7_keep hC.2.2.2.2.2.2.2 hDc.1 hDc.2.1 (Or.inr hDc.2.2)
    intro M2 hF2 hP2
    rw [hDc.2.2] at hP2
    have hC2 : CS M2 tr t s fl (f, L, 1) u H (kpF (6, 1, f, L) ps) := CS_Pa hC hF2 (fun k _ h => by unfold fPC at h; unfold cPaI; omega) hP2
    have hR2 := RT_cl hR hF2 (fun k h => by unfold fPC at h; omega)
    obtain ⟨s1, s2, s3, s4⟩ := same (M2.2 64) hC2.2.2.2.2.1.1
    refine P_X0_restoreOrder (by rw [hC2.2.2.2.2.2.1.1]; exact hfr) s1 rfl s2 s3 hpl (fun M' hw => ?_)
    rw [s4] at hw
    rw [s4, hC2.2.2.2.2.2.1.1]
    obtain ⟨w1, w2⟩ := WC_CS hC2 hw
    have hR' := RT_cl hR2 hw.1 (fun k h => by unfold fW at h; omega)
    have okp : ∀ m ∈ kpF (6, 1, f, L) ps, DOK m.2.2.1 m.2.1 ∧ lrnOK m.2.2.2 := by
      intro m hm
      rcases kp_mem hm with h | h
      · rw [h]; exact hO.2.2.2.1
      · exact hO.2.2.2.2.2.2 m h
    have hnil : ((([] : List Int).length : Nat) : Int) ≤ tr 4 := by rw [List.length_nil]; omega
    obtain ⟨o1, o2, o3, o4, o5, o6, o7⟩ := OKS_mono hO (N' := N + 1) (by omega)
    refine ⟨fun hbl => ?_, fun hbl M5 hM5 => ?_⟩
    · obtain ⟨hC', h67⟩ := w1 hbl
      refine P_X9_giveUpAll (M := M') hC' ?_
      intro M4 hF4 hC4
      have e67 : M4.1 67 = 1 := by rw [hF4.1 67 (by decide)]; exact h67
      rw [e67]
      refine ⟨fun q => by omega, fun _ => ?_⟩
      unfold T_X9_tellCutOff
      apply P_X9_refuse (by omega) hs (by omega) hC4
      intro M9 hF9 hC9
      apply rfin _ M9 (RT_cl (RT_cl hR' hF4 (fun k h => by omega)) hF9 (fun k h => by omega))
      · intro _ B2 hFB hRB
        refine G_in (CS_rf hC9 hFB (fun k h => h)) hRB (rfS_ok (by omega) hs ⟨o1, o2, o3, ⟨(hdok _).1 ?_, hLk⟩, ⟨(⟨by decide, by decide⟩ : inR (-1)), Int.le_refl _⟩, ⟨hnil, hh.2.1, by have := hh.2.2; show H.2 ≤ N + 1; omega⟩, okp⟩)
        have := nwr_blw hbl; omega
      · intro h; exact absurd hbl h
    · obtain ⟨hC', h67⟩ := w2 hbl
      have F5 : Fr (fun k => k = 66) M' M5 := by rw [hM5]; exact Fr_setS rfl
      have hD' := hC'.2.2.2.2.1
      have hC5 : CS M5 tr t s fl (apw f RL, L, 0) (fuN u.1 RL.length, RL.length) H (kpF (6, 1, f, L) ps) := CS_Dk hC' F5 (fun k _ h => by unfold cDkI; omega) ⟨by rw [F5.2 64 (by decide)]; exact hD'.1, by rw [F5.2 1 (by decide)]; exact hD'.2.1, by rw [hM5]; rfl⟩
      refine P_X9_giveUpAll (M := M5) hC5 ?_
      intro M4 hF4 hC4
      have e67 : M4.1 67 = 0 := by rw [hF4.1 67 (by decide), F5.1 67 (by decide)]; exact h67
      have e68 : M4.1 68 = RL.length := hC4.2.2.2.2.2.1.2
      rw [e67, e68]
      refine ⟨fun _ => ?_, fun q => absurd rfl q⟩
      refine P_X9_accept (M := M4) hC4 ?_
      intro M9 hF9 hC9
      apply rfin _ M9 (RT_cl (RT_cl (RT_cl hR' F5 (fun k h => by omega)) hF4 (fun k h => by omega)) hF9 (fun k h => by omega))
      · intro h; exact absurd h hbl
      · intro _ B2 hFB hRB
        exact G_in (CS_rf hC9 hFB (fun k h => h)) hRB ⟨o1, o2, o3, ⟨(hdok 0).2, hLk⟩, fuN_ok hfr hO.2.2.2.2.1.2 hbl, ⟨hnil, hh.2.1, by have := hh.2.2; show H.2 ≤ N + 1; omega⟩, okp⟩
  · apply P_X9_refuse (by omega) hs (by omega) hC
    intro M3 hF3 hC3
    have hR3 := RT_cl hR hF3 (fun k h => by omega)
    unfold T_X10_recover
    intro M1 hM1
    have hR1 := RT_576 hR3 hM1
    apply P_X10_isDown hR1.2.2.2.2.1.2.2 hd
    exact ⟨fun q => absurd hdn q, fun _ => ref_r hN (by omega) (CS_576 hC3 hM1) hR1 hO⟩
