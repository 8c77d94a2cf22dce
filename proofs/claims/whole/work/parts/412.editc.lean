theorem ap_erase_rI {r : Rec} {e : List Int} : (plain (rI (ap r e) 0 256)).length = 0 ↔ rI (ap r e) 0 256 = [] := plain_nil_iff
theorem P_X1_edit {src : Nat} {a : Int} {e : List Int} {f : Int → Int} {L : Lrn} {i : Int} {pkd : List Int} {es : List (List Int)} {rs : RS} {Q : Int → zMem → Prop} {M : zMem} (hs : src = 2 ∨ src = 4) (hA : AL (M.2 src) a e) (he : eOK e) (ha : 0 ≤ a ∧ a + e.length ≤ alen src) (hf : agr (M.2 128) f) (hW : WFz f) (hO : IsOrd f (gi e 1) i) (hP : PgX f i pkd es rs) (hg : trmOK (M.2 133)) (hL : lrnOK L) (hLat : Lat (M.2 129) 0 L)
    (hQ0 : (edW (M.2 133) f L e i pkd es rs).1 < 0 → ∀ M', Fr fEd M M' → Q (edW (M.2 133) f L e i pkd es rs).1 M')
    (hQ1 : 0 ≤ (edW (M.2 133) f L e i pkd es rs).1 → ∀ M', Fr fEd M M' → agr (M'.2 128) (edW (M.2 133) f L e i pkd es rs).2.1 → Lat (M'.2 129) 0 (edW (M.2 133) f L e i pkd es rs).2.2.1 → (∀ j, M'.2 130 j = if j ∈ (edW (M.2 133) f L e i pkd es rs).2.2.2.1 then 1 else M.2 130 j) → ((edW (M.2 133) f L e i pkd es rs).1 = 0 → M'.1 131 = (edW (M.2 133) f L e i pkd es rs).2.2.2.2) → Q (edW (M.2 133) f L e i pkd es rs).1 M') : T_X1_edit src a Q M := by
  obtain ⟨g, hg0⟩ : ∃ g, g = M.2 133 := ⟨_, rfl⟩
  rw [← hg0] at hg hQ0 hQ1
  have hal : alen src ≤ 400 ∧ 0 < alen src := by rcases hs with h | h <;> rw [h]; rw [alen_2]; omega; rw [alen_4]; omega
  have hlen := eOK_len he
  have hke := allB_gi he.2.2
  have hA0 : M.2 src a = gi e 0 := by have := hA 0 (by omega) (by omega); rw [Int.add_zero] at this; exact this
  have hA1 : M.2 src (a + 1) = gi e 1 := hA 1 (by omega) (by omega)
  have fa := agr_symm hf
  have hD := hW.1
  have hu := hD.1
  have hDm := agr_dir fa hD
  have e640 := fa 640 (by omega) (by omega)
  have hOm := IsOrd_agr fa hu.2 hO
  have hPm := PgX_agr fa hu.2 hO.1 hP
  have hi := hO.1
  have epg : M.2 128 (641 + 2 * i) = f (641 + 2 * i) := hf _ (by omega) (by omega)
  have efn : M.2 128 (642 + 2 * i) = f (642 + 2 * i) := hf _ (by omega) (by omega)
  have hp := hD.2.1 i hi.1 hi.2
  obtain ⟨p, hpp⟩ : ∃ p, p = f (641 + 2 * i) := ⟨_, rfl⟩
  have hPg := hPm.1
  rw [epg] at hPg
  rw [← hpp] at hp hPg epg
  obtain ⟨r, hr⟩ : ∃ r, r = pR es rs := ⟨_, rfl⟩
  have hR : RecOK r := by rw [hr]; exact Pg_RecOK hP.1
  have hby : ∀ j, 0 ≤ j → j < 640 → inR (M.2 128 j) := fun j h0 h1 => by
    have := hW.2.1 j h0 (by omega)
    rw [hf j h0 (by omega)]
    exact inR_mk (by omega) (by omega)
  have hkey := hke 1
  have hsrc3 : ¬ fTb 3 src ∧ ¬ fLd 3 src ∧ src ≠ 128 := by rcases hs with h | h <;> rw [h] <;> exact ⟨by unfold fTb; decide, by unfold fLd fTb fUn; decide, by decide⟩
  unfold T_X1_edit
  refine ⟨hal.2, ?_⟩
  apply P_X2_sizeAt ha.1 (Int.le_refl _) (by omega) (fun _ => by rw [hA0]; have := hke 0; exact inR_mk (by omega) (by omega))
  have hsz : sA (M.2 src) a (alen src) = e.length := sA_hit (t := []) he (by simpa using hA) (by simpa using ha.2)
  rw [hsz]
  refine ⟨fun _ => ⟨inR_mk (by omega) (by omega), ⟨by omega, by omega⟩, ?_⟩, fun q => by omega⟩
  rw [hA1]
  apply P_X4_orderFor (by rw [alen_128]; omega) hDm.1 hOm
  apply P_X4_pageAt (by rw [alen_128]; omega) ⟨hi.1, by omega⟩ (by rw [epg]; exact hp)
  rw [epg]
  apply P_X8_loadOnly (Or.inl rfl) (by rw [alen_128]; omega) (by unfold fLd fTb fUn; decide) hPg hby
  intro M23 hF23 hT23
  have ht64 : es.take (64 : Int).toNat = es := by
    apply List.take_of_length_le
    have h1 := flat_len hPg.1.2.2.2.2.1
    have h2 := hPg.1.2.2.2.1
    omega
  rw [ht64, ← hr] at hT23
  have s23 : M23.2 src = M.2 src := hF23.2 src hsrc3.2.1
  apply P_X8_refusalOf hT23 hR (by rw [s23]; exact hA) ⟨ha.1, ha.2, by omega⟩ he
  have FA : Fr fEd M M23 := Fr_mono hF23 (fun k h => Or.inl h)
  refine ⟨fun hrf => ?_, fun hrf => ?_⟩
  case refine_2 =>
    have hed : edW g f L e i pkd es rs = (rf (pR es rs) e, f, L, [], 0) := edW_rf (by rw [← hr]; exact hrf)
    rw [hed, ← hr] at hQ0
    exact hQ0 (by have := rf_neg r e; omega) M23 FA
  have hrf0 : rf (pR es rs) e = 0 := by rw [← hr]; exact hrf
  have hcan : can r e := can_of_rf he hrf
  have hR2 : RecOK (ap r e) := RecOK_ap hR he hcan
  have h120 := hP.2.2.2
  rw [← hr] at h120
  have hl2 := ap_len hR he hcan
  apply P_X8_plainSize hT23 hR (by omega)
  apply P_X8_apply hT23 hR (by rw [s23]; exact hA) ⟨ha.1, ha.2, by omega⟩ he hcan hsrc3.1
  intro M27 hF27 hT27
  have s27 : M27.2 src = M.2 src := (hF27.2 src hsrc3.1).trans s23
  have FB : Fr fEd M M27 := Fr_trans FA (Fr_mono hF27 (fun k h => Or.inl (Or.inl h)))
  have n128 : M27.2 128 = M.2 128 := (hF27.2 128 (by unfold fTb; decide)).trans (hF23.2 128 (by unfold fLd fTb fUn; decide))
  have n129 : M27.2 129 = M.2 129 := (hF27.2 129 (by unfold fTb; decide)).trans (hF23.2 129 (by unfold fLd fTb fUn; decide))
  have n130 : M27.2 130 = M.2 130 := (hF27.2 130 (by unfold fTb; decide)).trans (hF23.2 130 (by unfold fLd fTb fUn; decide))
  have n133 : M27.2 133 = g := by rw [hg0]; exact (hF27.2 133 (by unfold fTb; decide)).trans (hF23.2 133 (by unfold fLd fTb fUn; decide))
  apply P_X8_plainSize hT27 hR2 (by omega)
  refine ⟨⟨by omega, by omega⟩, ?_⟩
  rw [s27, hA0]
  have hk0 := hke 0
  apply P_X2_kindOf (inR_mk (by omega) (by omega))
  obtain ⟨r', hr'⟩ : ∃ r', r' = ap r e := ⟨_, rfl⟩
  have hr2 : ap (pR es rs) e = r' := by rw [hr', hr]
  rw [← hr'] at hT27 hR2 hl2 ⊢
  obtain ⟨was, hwas⟩ : ∃ w : Int, w = (plain (rI r 0 256)).length := ⟨_, rfl⟩
  obtain ⟨now, hnow⟩ : ∃ w : Int, w = (plain (rI r' 0 256)).length := ⟨_, rfl⟩
  rw [← hwas, ← hnow]
  have hkeys : keysAt f i r' := keysAt_of hD hi.1 (by
    rw [hr', hr]
    exact rIn_ap (rIn_pR hP.2.1 hP.2.2.1) (ord_keys hD hkey hO))
  -- the spread
  have hsp : ¬ goneP f e i es rs → ¬ roomP g L e pkd es rs → T_X1_spread i (fun y M5 => Q y M5) M27 := by
    intro hng hnr
    apply P_X1_spread (r := r') (L0 := L) hT27 hR2 (by omega) (by rw [n133]; exact hg) hL (by rw [n129]; exact hLat) (by rw [n128]; exact hDm) (by rw [n128, ← e640]; exact hi) (by rw [n128]; exact keysAt_agr fa hu.2 hi hkeys)
    · rw [n128, n133, ← e640]
      intro hc M' hF'
      have hed : edW g f L e i pkd es rs = (-5, f, L, [], 0) := edW_no hrf0 hng hnr (by rw [hr2]; exact hc)
      rw [hed] at hQ0
      exact hQ0 (by dsimp only; omega) M' (Fr_trans FB (Fr_mono hF' (fun k h => Or.inr (Or.inl h))))
    · rw [n128, n133, n130, ← e640]
      intro hc M' hF' w1 w2 w3
      have hed := edW_sp (g := g) (f := f) (L := L) (i := i) (pkd := pkd) hrf0 hng hnr (by rw [hr2]; omega)
      rw [hr2] at hed
      rw [hed] at hQ1
      obtain ⟨x1, x2, x3, x4, x5⟩ := spRes_ok (r := r') hg hL
      have hag := sp_agr fa hD hi hkeys hg hL hc
      have hn1 : 1 ≤ (spRes g r' L).1.length := by
        cases hq : (spRes g r' L).1 with
        | nil => exact absurd hq x3
        | cons a b => simp
      have hcp := spCode_pos hn1
      refine hQ1 (by dsimp only; omega) M' (Fr_trans FB (Fr_mono hF' (fun k h => Or.inr (Or.inl h)))) ?_ w2 ?_ ?_
      · rw [w1]; exact hag.1
      · rw [← hag.2]; exact w3
      · intro h0; dsimp only at h0; omega
  have h156 : ∀ v9, (v9 = 0 ∧ gi e 0 / 16 ≠ 2) ∨ (v9 = 1 ∧ gi e 0 / 16 = 2) → ¬ goneP f e i es rs → T_X1_edit_156 src a e.length i p was now v9 Q M27 := by
    intro v9 hv9 hng
    have hB := hPg.1
    unfold T_X1_edit_156
    apply P_X4_logEnd (by rw [alen_128]; omega) (by rw [n128]; exact hB) (by rw [n128]; exact hby)
    have hfit := hB.2.2.2.1
    have hl0 := hL.1
    have hg00 := hg.1
    have key : ∀ s1, s1 = (if gi e 0 / 16 = 2 then 0 else g 0) → T_X1_edit_198 src a e.length i was now (64 * p + 2 + pkd.length + (es.flatten.length : Int)) ((((p + 1) * 64) - (64 * p + 2 + pkd.length + (es.flatten.length : Int))) - e.length) s1 Q M27 := by
      intro s1 hs1
      have log : roomP g L e pkd es rs → T_X1_edit_229 src a e.length (64 * p + 2 + pkd.length + (es.flatten.length : Int)) Q M27 := by
        intro hro
        have hro1 := hro.1
        rw [← hs1] at hro1
        have hs1b : 0 ≤ s1 := by rw [hs1]; split <;> omega
        unfold T_X1_edit_229
        refine ⟨⟨⟨by omega, by omega, by omega⟩, by omega, by omega, by omega, by omega⟩, fun M1 hM1 M2 hM2 => ?_⟩
        have hed := edW_log (g := g) (f := f) (L := L) (i := i) (pkd := pkd) hrf0 hng hro
        rw [hed, ← hpp] at hQ1
        refine hQ1 (by dsimp only; omega) M2 ?_ ?_ ?_ ?_ ?_
        · refine Fr_trans FB ?_
          rw [hM2, hM1]
          exact Fr_trans (Fr_putA (Or.inr (Or.inl (Or.inr (Or.inl rfl))))) (Fr_setS (Or.inr (Or.inr rfl)))
        · have e2 : M2.2 128 = cpA (M27.2 src) (M27.2 128) a (64 * p + 2 + pkd.length + (es.flatten.length : Int)) e.length := by rw [hM2, hM1]; rfl
          rw [e2, s27, n128]
          intro j h0 h1
          unfold cpA lgF
          dsimp only
          have ec : (64 * p + 2 + (pkd.length : Int) + (es.flatten.length : Int)) = 64 * p + (2 + pkd.length + es.flatten.length) := by omega
          rw [ec]
          by_cases q : 64 * p + (2 + (pkd.length : Int) + es.flatten.length) ≤ j ∧ j < 64 * p + (2 + (pkd.length : Int) + es.flatten.length) + e.length
          · rw [if_pos q, if_pos q]
            exact hA _ (by omega) (by omega)
          · rw [if_neg q, if_neg q]
            exact hf j h0 h1
        · have e2 : M2.2 129 = M27.2 129 := by rw [hM2, hM1]; rfl
          rw [e2, n129]; exact hLat
        · intro j
          have e2 : M2.2 130 = M27.2 130 := by rw [hM2, hM1]; rfl
          rw [e2, n130, if_neg (by intro h; cases h)]
        · intro _
          have e2 : M2.1 131 = 64 * p + 2 + pkd.length + (es.flatten.length : Int) := by rw [hM2]; rfl
          rw [e2]
          dsimp only
          omega
      unfold T_X1_edit_198
      refine ⟨fun h => ?_, fun h => ?_⟩
      · unfold T_X1_edit_206
        refine ⟨fun _ => hsp hng ?_, fun q => absurd rfl q⟩
        intro hro
        have := hro.1
        rw [← hs1] at this
        omega
      · unfold T_X1_edit_206
        refine ⟨fun q => by omega, fun _ => ?_⟩
        apply P_X1_full hL (by rw [n129]; exact hLat)
        have hroom : ∀ q2 : now ≤ 120 - L.1 ∨ now ≤ was, roomP g L e pkd es rs := by
          intro q2
          unfold roomP
          rw [hr2, ← hr, ← hs1]
          refine ⟨by omega, ?_⟩
          rcases q2 with q2 | q2
          · exact Or.inl (by omega)
          · exact Or.inr (by omega)
        refine ⟨fun q => log (hroom (Or.inl q)), fun q => ⟨fun q2 => hsp hng ?_, fun q2 => log (hroom (Or.inr (by omega)))⟩⟩
        intro hro
        have := hro.2
        rw [hr2, ← hr] at this
        omega
    refine ⟨inR_mk (by omega) (by omega), inR_mk (by omega) (by omega), inR_mk (by omega) (by omega), inR_mk (by omega) (by omega), fun h9 => ⟨⟨by omega, by omega⟩, ?_⟩, fun h9 => ?_⟩
    · rw [n133]
      apply key
      rw [if_neg (by omega)]
    · apply key
      rw [if_pos (by omega)]
  refine ⟨fun hk2 => ?_, fun hk2 => ?_⟩
  · unfold T_X1_edit_124
    refine ⟨fun _ => h156 0 (Or.inl ⟨rfl, hk2⟩) (fun hgo => hk2 hgo.1), fun q => absurd rfl q⟩
  · unfold T_X1_edit_124
    refine ⟨fun q => by omega, fun _ => ⟨fun hn0 => h156 1 (Or.inr ⟨rfl, hk2⟩) (fun hgo => hn0 ?_), fun hn0 => ?_⟩⟩
    · rw [hnow]
      have := hgo.2.1
      rw [hr2] at this
      rw [this]; rfl
    · apply P_X4_fenceAt (by rw [alen_128]; omega) ⟨hi.1, by omega⟩
      rw [n128, efn]
      refine ⟨fun hz => h156 1 (Or.inr ⟨rfl, hk2⟩) (fun hgo => hgo.2.2 hz), fun hz => ?_⟩
      apply P_X1_removeFromDirectory (by rw [n128]; exact hDm.1) (by rw [n128, ← e640]; exact hi)
      intro M18 hF18 hw18
      have hgo : goneP f e i es rs := ⟨hk2, by rw [hr2]; exact plain_nil_iff.mp (by omega), hz⟩
      have hed := edW_gone (g := g) (f := f) (L := L) (i := i) (pkd := pkd) hrf0 hgo
      rw [hed] at hQ1
      refine hQ1 (by dsimp only; omega) M18 (Fr_trans FB (Fr_mono hF18 (fun k h => Or.inr (Or.inl (Or.inr (Or.inl h)))))) ?_ ?_ ?_ ?_
      · rw [funext hw18, n128]
        exact agr_symm (rmD_agr fa hu.2 hi.1)
      · rw [hF18.2 129 (by decide), n129]; exact hLat
      · intro j
        rw [hF18.2 130 (by decide), n130, if_neg (by intro h; cases h)]
      · intro h; dsimp only at h; omega
