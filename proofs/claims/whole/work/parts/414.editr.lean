def fEr : Nat → Prop := fun k => fLr k ∨ fSg k ∨ k = 604 ∨ k = 605
theorem P_X10_edits_203 {src : Nat} {a : Int} {e : List Int} {Q : Int → zMem → Prop} {M : zMem} {at_ : Int} (hs : src ≠ 583) (hA : AL (M.2 src) a e) (ha : 0 ≤ a ∧ a + e.length ≤ alen src ∧ alen src ≤ 400) (h604 : M.1 604 = at_) (hat : 0 ≤ at_ ∧ at_ + e.length ≤ 640) (hQ : ∀ M', Fr (fun k => k = 583) M M' → M'.2 583 = lgF (M.2 583) at_ e → Q 0 M') : T_X10_edits_203 src a e.length Q 0 M := by
  unfold T_X10_edits_203
  apply zl1_rule (fun v12 M' => (0 ≤ v12 ∧ v12 ≤ e.length) ∧ Fr (fun k => k = 583) M M' ∧ M'.2 583 = fun j => if at_ ≤ j ∧ j < at_ + v12 then gi e (j - at_) else M.2 583 j) (fun v12 _ => ((e.length : Int) - v12).toNat)
  · intro X v12 M1 ⟨h1, h2, h3⟩ hX
    refine ⟨fun h => ?_, fun h => ?_⟩
    · apply hQ M1 h2
      rw [h3]
      have : v12 = e.length := by omega
      rw [this]; rfl
    · rw [h2.1 604 (by decide), h604, h2.2 src hs]
      refine ⟨inR_mk (by omega) (by omega), inR_mk (by omega) (by omega), ⟨by omega, by omega⟩, ⟨by omega, by omega⟩, fun M2 hM2 => ⟨inR_mk (by omega) (by omega), hX _ _ ⟨⟨by omega, by omega⟩, ?_, ?_⟩ (by omega)⟩⟩
      · rw [hM2]; exact Fr_trans h2 (Fr_setA rfl)
      · have e2 : M2.2 583 = upI (M1.2 583) (at_ + v12) (M.2 src (a + v12)) := by rw [hM2]; rfl
        rw [e2, h3]
        funext j
        unfold upI
        by_cases hj : j = at_ + v12
        · rw [if_pos hj, if_pos (by omega), hA v12 (by omega) (by omega)]
          congr 1; omega
        · rw [if_neg hj]
          dsimp only
          by_cases q : at_ ≤ j ∧ j < at_ + v12
          · rw [if_pos q, if_pos (by omega)]
          · rw [if_neg q, if_neg (by omega)]
  · refine ⟨⟨by omega, by omega⟩, Fr_refl M, ?_⟩
    funext j
    rw [if_neg (by omega)]
theorem P_X10_edits {src : Nat} {a : Int} {e : List Int} {f : Int → Int} {L : Lrn} {i : Int} {pkd : List Int} {es : List (List Int)} {rs : RS} {Q : Int → zMem → Prop} {M : zMem} (hs : src = 584 ∨ src = 614) (hA : AL (M.2 src) a e) (he : eOK e) (ha : 0 ≤ a ∧ a + e.length ≤ alen src) (hf : agr (M.2 583) f) (hW : WFz f) (hO : IsOrd f (gi e 1) i) (hP : PgX f i pkd es rs) (hg : trmOK (M.2 579)) (hL : lrnOK L) (hLat : Lat (M.2 583) 661 L) (hm0 : 0 ≤ M.1 606 ∧ M.1 606 < 1024)
    (hQ0 : (edW (M.2 579) f L e i pkd es rs).1 < 0 → ∀ M', Fr fEr M M' → Q (edW (M.2 579) f L e i pkd es rs).1 M')
    (hQ1 : 0 ≤ (edW (M.2 579) f L e i pkd es rs).1 → ∀ M', Fr fEr M M' → agr (M'.2 583) (edW (M.2 579) f L e i pkd es rs).2.1 → Lat (M'.2 583) 661 (edW (M.2 579) f L e i pkd es rs).2.2.1 → (0 ≤ M'.1 606 ∧ M'.1 606 < 1024) → (∀ p, 0 ≤ p → p < 10 → bt (M'.1 606) p = if p ∈ (edW (M.2 579) f L e i pkd es rs).2.2.2.1 then 1 else bt (M.1 606) p) → ((edW (M.2 579) f L e i pkd es rs).1 = 0 → M'.1 604 = (edW (M.2 579) f L e i pkd es rs).2.2.2.2 ∧ M'.1 605 = e.length) → Q (edW (M.2 579) f L e i pkd es rs).1 M') : T_X10_edits src a Q M := by
  obtain ⟨g, hg0⟩ : ∃ g, g = M.2 579 := ⟨_, rfl⟩
  rw [← hg0] at hg hQ0 hQ1
  have hal : alen src ≤ 400 ∧ 0 < alen src := by rcases hs with h | h <;> rw [h]; rw [alen_584]; omega; rw [alen_614]; omega
  have hlen := eOK_len he
  have hke := allB_gi he.2.2
  have hA0 : M.2 src a = gi e 0 := by have := hA 0 (by omega) (by omega); rw [Int.add_zero] at this; exact this
  have hA1 : M.2 src (a + 1) = gi e 1 := hA 1 (by omega) (by omega)
  have fa := agr_symm hf
  have hD := hW.1
  have hu := hD.1
  have hDm := agr_dir fa hD
  have e640 := fa 640 (by omega) (by omega)
  have hOm := IsOrd_agr fa hu.2 hO
  have hPm := PgX_agr fa hu.2 hO.1 hP
  have hi := hO.1
  have epg : M.2 583 (641 + 2 * i) = f (641 + 2 * i) := hf _ (by omega) (by omega)
  have efn : M.2 583 (642 + 2 * i) = f (642 + 2 * i) := hf _ (by omega) (by omega)
  have hp := hD.2.1 i hi.1 hi.2
  obtain ⟨p, hpp⟩ : ∃ p, p = f (641 + 2 * i) := ⟨_, rfl⟩
  have hPg := hPm.1
  rw [epg] at hPg
  rw [← hpp] at hp hPg epg
  obtain ⟨r, hr⟩ : ∃ r, r = pR es rs := ⟨_, rfl⟩
  have hR : RecOK r := by rw [hr]; exact Pg_RecOK hP.1
  have hkey := hke 1
  have hk0 := hke 0
  have hsrc3 : ¬ fTr src ∧ ¬ fLr src ∧ src ≠ 583 := by rcases hs with h | h <;> rw [h] <;> exact ⟨by unfold fTr; decide, by unfold fLr fTr fUr; decide, by decide⟩
  unfold T_X10_edits
  refine ⟨inR_mk (by omega) (by omega), ⟨by omega, by omega⟩, ⟨by omega, by omega⟩, ?_⟩
  rw [hA0, hA1]
  apply P_X10_kindOf hk0.1
  apply P_X10_placeFor (by rw [alen_583]; omega) hDm hOm
  apply P_X10_numberOf (by rw [alen_583]; omega) ⟨hi.1, by omega⟩
  rw [epg]
  apply P_X10_laysAlone (by rw [alen_583]; omega) (by unfold fLr fTr fUr; decide) hPg
  intro M20 hF20 hT20
  rw [← hr] at hT20
  have s20 : M20.2 src = M.2 src := hF20.2 src hsrc3.2.1
  apply P_X10_cant hT20 hR (by rw [s20]; exact hA) ⟨ha.1, ha.2, by omega⟩ he
  have FA : Fr fEr M M20 := Fr_mono hF20 (fun k h => Or.inl h)
  have hrfc := rf_neg r e
  refine ⟨fun hrf => ?_, fun hrf => ?_⟩
  case refine_2 =>
    have hed : edW g f L e i pkd es rs = (rf (pR es rs) e, f, L, [], 0) := edW_rf (by rw [← hr]; omega)
    rw [hed, ← hr] at hQ0
    exact hQ0 (by dsimp only; omega) M20 FA
  have hrf : rf r e = 0 := by omega
  have hrf0 : rf (pR es rs) e = 0 := by rw [← hr]; exact hrf
  have hcan : can r e := can_of_rf he hrf
  have hR2 : RecOK (ap r e) := RecOK_ap hR he hcan
  have h120 := hP.2.2.2
  rw [← hr] at h120
  have hl2 := ap_len hR he hcan
  apply P_X10_plainOf hT20 hR (by omega)
  apply P_X10_does hT20 hR (by rw [s20]; exact hA) ⟨ha.1, ha.2, by omega⟩ he hcan hsrc3.1
  intro M24 hF24 hT24
  have s24 : M24.2 src = M.2 src := (hF24.2 src hsrc3.1).trans s20
  have FB : Fr fEr M M24 := Fr_trans FA (Fr_mono hF24 (fun k h => Or.inl (Or.inl h)))
  have n583 : M24.2 583 = M.2 583 := (hF24.2 583 (by unfold fTr; decide)).trans (hF20.2 583 (by unfold fLr fTr fUr; decide))
  have n579 : M24.2 579 = g := by rw [hg0]; exact (hF24.2 579 (by unfold fTr; decide)).trans (hF20.2 579 (by unfold fLr fTr fUr; decide))
  have n606 : M24.1 606 = M.1 606 := (hF24.1 606 (by unfold fTr; decide)).trans (hF20.1 606 (by unfold fLr fTr fUr; decide))
  obtain ⟨r', hr'⟩ : ∃ r', r' = ap r e := ⟨_, rfl⟩
  have hr2 : ap (pR es rs) e = r' := by rw [hr', hr]
  rw [← hr'] at hT24 hR2 hl2
  obtain ⟨was, hwas⟩ : ∃ w : Int, w = (plain (rI r 0 256)).length := ⟨_, rfl⟩
  obtain ⟨now, hnow⟩ : ∃ w : Int, w = (plain (rI r' 0 256)).length := ⟨_, rfl⟩
  have e255 : (255 : Int) + 1 = 256 := rfl
  rw [e255, ← hwas]
  have hkeys : keysAt f i r' := keysAt_of hD hi.1 (by
    rw [hr', hr]
    exact rIn_ap (rIn_pR hP.2.1 hP.2.2.1) (ord_keys hD hkey hO))
  -- the spread
  have hsp : ¬ goneP f e i es rs → ¬ roomP g L e pkd es rs → T_X10_spreadsPage i (fun y M5 => Q y M5) M24 := by
    intro hng hnr
    apply P_X10_spreadsPage (r := r') (L0 := L) hT24 hR2 (by omega) (by rw [n579]; exact hg) hL (by rw [n583]; exact hLat) (by rw [n583]; exact hDm) (by rw [n583, ← e640]; exact hi) (by rw [n583]; exact keysAt_agr fa hu.2 hi hkeys) (by rw [n606]; exact hm0)
    · rw [n583, n579, ← e640]
      intro hc M' hF'
      have hed : edW g f L e i pkd es rs = (-5, f, L, [], 0) := edW_no hrf0 hng hnr (by rw [hr2]; exact hc)
      rw [hed] at hQ0
      exact hQ0 (by dsimp only; omega) M' (Fr_trans FB (Fr_mono hF' (fun k h => Or.inr (Or.inl h))))
    · rw [n583, n579, n606, ← e640]
      intro hc M' hF' w1 w2 w3 w4
      have hed := edW_sp (g := g) (f := f) (L := L) (i := i) (pkd := pkd) hrf0 hng hnr (by rw [hr2]; omega)
      rw [hr2] at hed
      rw [hed] at hQ1
      obtain ⟨x1, x2, x3, x4, x5⟩ := spRes_ok (r := r') hg hL
      have hag := sp_agr fa hD hi hkeys hg hL hc
      have hn1 : 1 ≤ (spRes g r' L).1.length := by
        cases hq : (spRes g r' L).1 with
        | nil => exact absurd hq x3
        | cons a b => simp
      have hcp := spCode_pos hn1
      refine hQ1 (by dsimp only; omega) M' (Fr_trans FB (Fr_mono hF' (fun k h => Or.inr (Or.inl h)))) ?_ w2 w3 ?_ ?_
      · exact agr_trans w1 hag.1
      · rw [← hag.2]; exact w4
      · intro h0; dsimp only at h0; omega
  have h110 : ¬ goneP f e i es rs → T_X10_edits_110 src a (gi e 0 / 16) i p was Q M24 := by
    intro hng
    have hB := hPg.1
    have hfit := hB.2.2.2.1
    have hl0 := hL.1
    have hg00 := hg.1
    unfold T_X10_edits_110
    refine ⟨⟨by omega, by omega⟩, ?_⟩
    rw [s24, hA0]
    apply P_X10_lengthOf hk0
    have hszb : szB (gi e 0) ≠ 0 := by rw [he.1]; omega
    rw [lnR_szB hszb, he.1]
    apply P_X10_endOf (by rw [alen_583]; omega) (by rw [n583]; exact hB)
    apply P_X10_plainOf hT24 hR2 (by omega)
    rw [e255, ← hnow]
    have key : ∀ s1, s1 = (if gi e 0 / 16 = 2 then 0 else g 0) → T_X10_edits_160 src a i p was e.length (2 + pkd.length + (es.flatten.length : Int)) now (2 + pkd.length + (es.flatten.length : Int) + e.length) s1 Q M24 := by
      intro s1 hs1
      have hs1b : 0 ≤ s1 ∧ s1 ≤ 16 := by rw [hs1]; split <;> omega
      have log : roomP g L e pkd es rs → T_X10_edits_182 src a p e.length (2 + pkd.length + (es.flatten.length : Int)) Q M24 := by
        intro hro
        have hro1 := hro.1
        rw [← hs1] at hro1
        unfold T_X10_edits_182
        refine ⟨inR_mk (by omega) (by omega), inR_mk (by omega) (by omega), fun M3 hM3 M4 hM4 => ?_⟩
        have m2 : M4.2 = M24.2 := by rw [hM4, hM3]; rfl
        have m604 : M4.1 604 = 64 * p + (2 + pkd.length + (es.flatten.length : Int)) := by rw [hM4, hM3]; rfl
        have m605 : M4.1 605 = e.length := by rw [hM4]; rfl
        have m606 : M4.1 606 = M24.1 606 := by rw [hM4, hM3]; rfl
        apply P_X10_edits_203 hsrc3.2.2 (by rw [m2, s24]; exact hA) ⟨ha.1, ha.2, hal.1⟩ m604 (by omega)
        intro M5 hF5 hw5
        rw [m2, n583] at hw5
        have hed := edW_log (g := g) (f := f) (L := L) (i := i) (pkd := pkd) hrf0 hng hro
        rw [hed, ← hpp] at hQ1
        refine hQ1 (by dsimp only; omega) M5 ?_ ?_ ?_ ?_ ?_ ?_
        · refine Fr_trans FB (Fr_trans ?_ (Fr_mono hF5 (fun k h => Or.inr (Or.inl (Or.inl (Or.inl (Or.inl h)))))))
          rw [hM4, hM3]
          exact Fr_trans (Fr_setS (Or.inr (Or.inr (Or.inl rfl)))) (Fr_setS (Or.inr (Or.inr (Or.inr rfl))))
        · rw [hw5]
          exact lgF_agr hf
        · rw [hw5]
          have hh : ∀ j, 661 ≤ j → lgF (M.2 583) (64 * p + (2 + pkd.length + (es.flatten.length : Int))) e j = M.2 583 j := by
            intro j hj
            unfold lgF
            rw [if_neg (by omega)]
          unfold Lat
          rw [hh _ (by omega), hh _ (by omega), hh _ (by omega), hh _ (by omega)]
          exact hLat
        · rw [hF5.1 606 (by decide), m606, n606]; exact hm0
        · intro q _ _
          rw [hF5.1 606 (by decide), m606, n606, if_neg (by intro h; cases h)]
        · intro _
          rw [hF5.1 604 (by decide), m604, hF5.1 605 (by decide), m605]
          exact ⟨rfl, rfl⟩
      have hroom : 2 + pkd.length + (es.flatten.length : Int) + e.length + s1 ≤ 64 → (now ≤ 120 - L.1 ∨ now ≤ was) → roomP g L e pkd es rs := by
        intro q1 q2
        unfold roomP
        rw [hr2, ← hr, ← hs1]
        refine ⟨by omega, ?_⟩
        rcases q2 with q2 | q2
        · exact Or.inl (by omega)
        · exact Or.inr (by omega)
      unfold T_X10_edits_160
      refine ⟨inR_mk (by omega) (by omega), fun h => hsp hng ?_, fun h => ?_⟩
      · intro hro
        have := hro.1
        rw [← hs1] at this
        omega
      · apply P_X10_full hL (by rw [n583]; exact hLat)
        refine ⟨fun q => log (hroom (by omega) (Or.inl q)), fun q => ⟨fun q2 => hsp hng ?_, fun q2 => log (hroom (by omega) (Or.inr (by omega)))⟩⟩
        intro hro
        have := hro.2
        rw [hr2, ← hr] at this
        omega
    refine ⟨inR_mk (by omega) (by omega), fun h9 => ⟨⟨by omega, by omega⟩, ?_⟩, fun h9 => ?_⟩
    · rw [n579]
      apply key
      rw [if_neg h9]
    · apply key
      rw [if_pos h9]
  refine ⟨fun hk2 => h110 (fun hgo => hk2 hgo.1), fun hk2 => ?_⟩
  apply P_X10_recordMany hT24
  refine ⟨fun hn0 => h110 (fun hgo => hn0 ?_), fun hn0 => ?_⟩
  · have := hgo.2.1
    rw [hr2] at this
    rw [this]; rfl
  · apply P_X10_fenceOf (by rw [alen_583]; omega) ⟨hi.1, by omega⟩
    rw [n583, efn]
    refine ⟨fun hz => h110 (fun hgo => hgo.2.2 hz), fun hz => ?_⟩
    apply P_X10_goes (by rw [n583]; exact hDm.1) (by rw [n583, ← e640]; exact hi)
    intro M30 hF30 hw30
    have hgo : goneP f e i es rs := ⟨hk2, by
      rw [hr2]
      cases hq : rI r' 0 256 with
      | nil => rfl
      | cons x t => rw [hq, List.length_cons] at hn0; omega, hz⟩
    have hed := edW_gone (g := g) (f := f) (L := L) (i := i) (pkd := pkd) hrf0 hgo
    rw [hed] at hQ1
    have hrm : M30.2 583 = rmD (M.2 583) i := by rw [funext hw30, n583]
    refine hQ1 (by dsimp only; omega) M30 (Fr_trans FB (Fr_mono hF30 (fun k h => Or.inr (Or.inl (Or.inl (Or.inl (Or.inl h))))))) ?_ ?_ ?_ ?_ ?_
    · rw [hrm]
      exact agr_symm (rmD_agr fa hu.2 hi.1)
    · rw [hrm]
      have hu2 := hDm.1
      have hh : ∀ j, 661 ≤ j → rmD (M.2 583) i j = M.2 583 j := by
        intro j hj
        unfold rmD
        rw [if_neg (by omega), if_neg (by omega)]
      unfold Lat
      rw [hh _ (by omega), hh _ (by omega), hh _ (by omega), hh _ (by omega)]
      exact hLat
    · rw [hF30.1 606 (by decide), n606]; exact hm0
    · intro q _ _
      rw [hF30.1 606 (by decide), n606, if_neg (by intro h; cases h)]
    · intro h; dsimp only at h; omega
