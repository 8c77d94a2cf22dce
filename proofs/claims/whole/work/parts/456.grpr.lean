def fDd : Nat → Prop := fun k => fDr k ∨ fEr k ∨ k = 615
theorem AL_b {a : Int → Int} {off : Int} {x : List Int} (h : AL a off x) (hb : allB x) {j : Int} (h0 : off ≤ j) (h1 : j < off + x.length) : 0 ≤ a j ∧ a j < 256 := by
  have := h (j - off) (by omega) (by omega)
  have e : off + (j - off) = j := by omega
  rw [e] at this
  rw [this]
  exact allB_gi hb _
-- all are read ahead of any
theorem P_X10_drafted_18 {es : List (List Int)} {rest : List Int} {Q : Int → zMem → Prop} {M : zMem} (hA : AL (M.2 584) 0 (es.flatten ++ rest)) (h4 : (es.flatten ++ rest).length ≤ 400) (hr : rest = [] ∨ badE rest) (he : ∀ e ∈ es, eOK e) (hb : allB (es.flatten ++ rest))
    (hQ1 : rest = [] → ∀ M', Fr (fun k => k = 615) M M' → T_X10_drafted_77 es.flatten.length Q 0 0 M') (hQ0 : badE rest → ∀ M', Fr (fun k => k = 615) M M' → M'.1 615 = es.flatten.length → Q (-6) M') : T_X10_drafted_18 (es.flatten ++ rest).length Q 0 M := by
  rw [List.length_append] at h4
  have a584 : alen 584 = 400 := alen_584
  unfold T_X10_drafted_18
  rw [List.length_append]
  apply zl1_rule (fun v2 M1 => (∃ dn td : List (List Int), es = dn ++ td ∧ v2 = dn.flatten.length) ∧ Fr (fun k => k = 615) M M1) (fun v2 _ => (400 - v2).toNat)
  · intro X v2 M1 ⟨⟨dn, td, h1, h2⟩, h3⟩ hX
    have hl : dn.flatten.length + td.flatten.length = es.flatten.length := by rw [h1, List.flatten_append, List.length_append]
    refine ⟨fun q => ?_, fun q M13 hM13 => ⟨⟨by omega, by omega⟩, ?_⟩⟩
    · have hr0 : rest = [] := by
        rcases hr with hr | hr
        · exact hr
        · have : 0 < rest.length := by
            cases hq : rest with
            | nil => exact absurd hq hr.1
            | cons a b => simp
          omega
      subst hr0
      rw [List.length_nil, Nat.add_zero]
      exact hQ1 rfl M1 h3
    · have F13 : Fr (fun k => k = 615) M M13 := by rw [hM13]; exact Fr_trans h3 (Fr_setS rfl)
      have e584 : M13.2 584 = M.2 584 := F13.2 584 (by decide)
      have hA2 : AL (M.2 584) v2 (td.flatten ++ rest) := by
        rw [h1, List.flatten_append, List.append_assoc, AL_app] at hA
        rw [h2]
        have := hA.2
        rw [Int.zero_add] at this
        exact this
      have hby : 0 ≤ M.2 584 v2 ∧ M.2 584 v2 < 256 := AL_b hA hb (by omega) (by rw [List.length_append]; omega)
      rw [e584]
      have hdone : ∀ p : (td = []), badE rest → Q (-6) M13 := by
        intro p hbd
        rw [p, List.flatten_nil, List.length_nil] at hl
        refine hQ0 hbd M13 F13 ?_
        rw [hM13]
        show v2 = _
        omega
      cases td with
      | nil =>
        rw [List.flatten_nil, List.nil_append] at hA2
        rw [List.flatten_nil, List.length_nil] at hl
        have hbad : badE rest := by
          rcases hr with hr | hr
          · rw [hr, List.length_nil] at q; omega
          · exact hr
        have hr0 : 0 < rest.length := by
          cases hq : rest with
          | nil => exact absurd hq hbad.1
          | cons a b => simp
        have e0 : M.2 584 v2 = gi rest 0 := by
          have := hA2 0 (by omega) (by omega)
          rw [Int.add_zero] at this
          exact this
        apply P_X10_isEntry hby
        · intro hs
          refine ⟨fun q2 => by omega, fun _ => ⟨⟨by omega, by omega⟩, ?_⟩⟩
          apply P_X10_lengthOf hby
          have hz := szB_b (M.2 584 v2)
          rw [lnR_szB hs]
          refine ⟨inR_mk (by omega) (by omega), fun q2 => ?_, fun _ => hdone rfl hbad⟩
          rcases hbad.2 with hx | hx
          · rw [e0] at hs; exact absurd hx hs
          · rw [← e0] at hx; omega
        · intro _
          exact ⟨fun _ => hdone rfl hbad, fun q2 => absurd rfl q2⟩
      | cons e t =>
        have hE := he e (by rw [h1]; exact List.mem_append_right _ List.mem_cons_self)
        have hel := eOK_len hE
        rw [List.flatten_cons, List.length_append] at hl
        have e0 : M.2 584 v2 = gi e 0 := by
          rw [List.flatten_cons, List.append_assoc, AL_app] at hA2
          have := hA2.1 0 (by omega) (by omega)
          rw [Int.add_zero] at this
          exact this
        have hs : szB (M.2 584 v2) = e.length := by rw [e0]; exact hE.1
        apply P_X10_isEntry hby
        · intro hs0
          refine ⟨fun q2 => by omega, fun _ => ⟨⟨by omega, by omega⟩, ?_⟩⟩
          apply P_X10_lengthOf hby
          rw [lnR_szB hs0, hs]
          refine ⟨inR_mk (by omega) (by omega), fun q2 => ⟨⟨by omega, by omega⟩, ?_⟩, fun q2 => by omega⟩
          apply P_X10_lengthOf hby
          rw [lnR_szB hs0, hs]
          exact ⟨inR_mk (by omega) (by omega), hX _ _ ⟨⟨dn ++ [e], t, by rw [h1, List.append_assoc]; rfl, by rw [flat_snoc]; omega⟩, F13⟩ (by omega)⟩
        · intro h0; omega
  · exact ⟨⟨[], es, rfl, rfl⟩, Fr_refl M⟩
theorem P_X10_drafted_77 {es : List (List Int)} {f f0 : Int → Int} {L : Lrn} {Q : Int → zMem → Prop} {M : zMem} (hA : AL (M.2 584) 0 es.flatten) (h4 : es.flatten.length ≤ 400) (he : ∀ e ∈ es, eOK e) (hf : agr (M.2 583) f) (hf0 : agr (M.2 582) f0) (hW : WFz f) (hg : trmOK (M.2 579)) (hL : lrnOK L) (hLat : Lat (M.2 583) 661 L) (hm0 : 0 ≤ M.1 606 ∧ M.1 606 < 1024)
    (hQ0 : (gr (M.2 579) es f L 0 0).1 < 0 → ∀ M', Fr fDd M M' → M'.1 615 = (gr (M.2 579) es f L 0 0).2.1 → Q (gr (M.2 579) es f L 0 0).1 M')
    (hQ1 : 0 ≤ (gr (M.2 579) es f L 0 0).1 → ∀ M', Fr fDd M M' → M'.1 615 = -1 → agr (M'.2 583) (gr (M.2 579) es f L 0 0).2.2.1 → Lat (M'.2 583) 661 (gr (M.2 579) es f L 0 0).2.2.2 → (0 ≤ M'.1 606 ∧ M'.1 606 < 1024) → (∀ p, 0 ≤ p → p < 10 → (dfB (gr (M.2 579) es f L 0 0).2.2.1 f0 p → bt (M'.1 606) p = 1) ∧ (¬ dfB (gr (M.2 579) es f L 0 0).2.2.1 f0 p → bt (M'.1 606) p = 0)) → Q (gr (M.2 579) es f L 0 0).1 M') : T_X10_drafted_77 es.flatten.length Q 0 0 M := by
  obtain ⟨g, hg0⟩ : ∃ g, g = M.2 579 := ⟨_, rfl⟩
  rw [← hg0] at hg hQ0 hQ1
  obtain ⟨res, hres⟩ : ∃ res, res = gr g es f L 0 0 := ⟨_, rfl⟩
  rw [← hres] at hQ0 hQ1
  have a584 : alen 584 = 400 := alen_584
  unfold T_X10_drafted_77
  apply zl2_rule (fun v2 v3 M1 => ∃ (dn td : List (List Int)) (f1 : Int → Int) (L1 : Lrn), es = dn ++ td ∧ v2 = dn.flatten.length ∧ v3 = dn.length ∧ gr g td f1 L1 v3 v2 = res ∧ WFz f1 ∧ lrnOK L1 ∧ agr (M1.2 583) f1 ∧ Lat (M1.2 583) 661 L1 ∧ Fr fDd M M1 ∧ (0 ≤ M1.1 606 ∧ M1.1 606 < 1024)) (fun v2 v3 _ => (400 - v2).toNat)
  · intro X v2 v3 M1 ⟨dn, td, f1, L1, h1, h2, h3, h5, h6, h7, h8, h9, h10, h11⟩ hX
    have hl : dn.flatten.length + td.flatten.length = es.flatten.length := by rw [h1, List.flatten_append, List.length_append]
    have hfl := flat_len (es := dn) (fun e h => he e (by rw [h1]; exact List.mem_append_left _ h))
    have e584 : M1.2 584 = M.2 584 := h10.2 584 (by unfold fDd fDr fEr fLr fTr fUr fSg fSr fTyr fRp; decide)
    have e579 : M1.2 579 = g := by rw [hg0]; exact h10.2 579 (by unfold fDd fDr fEr fLr fTr fUr fSg fSr fTyr fRp; decide)
    have e582 : M1.2 582 = M.2 582 := h10.2 582 (by unfold fDd fDr fEr fLr fTr fUr fSg fSr fTyr fRp; decide)
    refine ⟨fun q M5 hM5 M6 hM6 => ?_, fun q M7 hM7 => ?_⟩
    · have htd : td = [] := by
        cases td with
        | nil => rfl
        | cons e t =>
          have hel := eOK_len (he e (by rw [h1]; exact List.mem_append_right _ List.mem_cons_self))
          rw [List.flatten_cons, List.length_append] at hl
          omega
      rw [htd, gr] at h5
      have F6 : Fr fDd M M6 := by rw [hM6, hM5]; exact Fr_trans (Fr_trans h10 (Fr_setS (Or.inr (Or.inr rfl)))) (Fr_setS (Or.inl (Or.inr rfl)))
      have s6 : M6.2 = M1.2 := by rw [hM6, hM5]; rfl
      apply P_X10_drafted_137 (by rw [hM6]; rfl)
      intro M' hF' hb' hd'
      rw [← h5] at hQ1
      dsimp only at hQ1
      refine hQ1 (by omega) M' (Fr_trans F6 (Fr_mono hF' (fun k h => Or.inl (Or.inr h)))) ?_ ?_ ?_ hb' ?_
      · rw [hF'.1 615 (by decide), hM6, hM5]; rfl
      · rw [hF'.2 583 (by decide), s6]; exact h8
      · rw [hF'.2 583 (by decide), s6]; exact h9
      · intro p p0 p1
        have hx := hd' p p0 p1
        have hiff : dfB f1 f0 p ↔ dfB (M6.2 583) (M6.2 582) p := by
          rw [s6, e582]
          constructor
          · rintro ⟨j, j0, j1, j2⟩
            exact ⟨j, j0, j1, by rw [h8 j (by omega) (by omega), hf0 j (by omega) (by omega)]; exact j2⟩
          · rintro ⟨j, j0, j1, j2⟩
            exact ⟨j, j0, j1, by rw [← h8 j (by omega) (by omega), ← hf0 j (by omega) (by omega)]; exact j2⟩
        rw [hiff]
        exact hx
    · cases td with
      | nil => rw [List.flatten_nil, List.length_nil] at hl; omega
      | cons e t =>
        have hE := he e (by rw [h1]; exact List.mem_append_right _ List.mem_cons_self)
        have hel := eOK_len hE
        rw [List.flatten_cons, List.length_append] at hl
        have F7 : Fr fDd M M7 := by rw [hM7]; exact Fr_trans h10 (Fr_setS (Or.inr (Or.inr rfl)))
        have s7 : M7.2 = M1.2 := by rw [hM7]; rfl
        have hAe : AL (M7.2 584) v2 e := by
          rw [h1, List.flatten_append, List.flatten_cons, AL_app, AL_app] at hA
          rw [s7, e584, h2]
          have := hA.2.1
          rw [Int.zero_add] at this
          exact this
        have hO := od_ok h6.1 (gi e 1)
        have hw := wt_ok h6 hO.1
        have hed : edW (M7.2 579) f1 L1 e (od f1 (gi e 1)) (wt f1 (od f1 (gi e 1))).1 (wt f1 (od f1 (gi e 1))).2.1 (wt f1 (od f1 (gi e 1))).2.2 = ed g f1 L1 e := by
          unfold ed
          rw [s7, e579]
        have e606 : M7.1 606 = M1.1 606 := by rw [hM7]; rfl
        apply P_X10_edits (Or.inl rfl) hAe hE ⟨by omega, by omega⟩ (by rw [s7]; exact h8) h6 hO hw.1 (by rw [s7, e579]; exact hg) h7 (by rw [s7]; exact h9) (by rw [e606]; exact h11)
        · rw [hed]
          intro hneg M9 hF9
          refine ⟨fun q2 => by omega, fun _ => ?_⟩
          rw [gr_no hneg] at h5
          rw [← h5] at hQ0
          dsimp only at hQ0
          refine hQ0 hneg M9 (Fr_trans F7 (Fr_mono hF9 (fun k h => Or.inr (Or.inl h)))) ?_
          rw [hF9.1 615 (by unfold fEr fLr fTr fUr fSg fSr fTyr fRp; decide), hM7]
          rfl
        · rw [hed]
          intro hpos M9 hF9 w1 w2 w3 w4 w5
          obtain ⟨k1, k2, k3⟩ := ed_keeps h6 hg h7 hE hpos
          rw [gr_go (by omega)] at h5
          have e20 : M9.2 584 v2 = gi e 0 := by
            rw [hF9.2 584 (by unfold fEr fLr fTr fUr fSg fSr fTyr fRp; decide)]
            have := hAe 0 (by omega) (by omega)
            rw [Int.add_zero] at this
            exact this
          refine ⟨fun _ => ⟨⟨by omega, by omega⟩, ?_⟩, fun q2 => by omega⟩
          rw [e20]
          apply P_X10_lengthOf (allB_gi hE.2.2 0)
          rw [lnR_szB (by rw [hE.1]; omega), hE.1]
          exact ⟨inR_mk (by omega) (by omega), inR_mk (by omega) (by omega), hX _ _ _ ⟨dn ++ [e], t, _, _, by rw [h1, List.append_assoc]; rfl, by rw [flat_snoc]; omega, by rw [len_snoc]; omega, h5, k1, k2, w1, w2, Fr_trans F7 (Fr_mono hF9 (fun k h => Or.inr (Or.inl h))), w3⟩ (by omega)⟩
  · exact ⟨[], es, f, L, rfl, rfl, rfl, hres.symm, hW, hL, hf, hLat, Fr_refl M, hm0⟩
def LatR (a : Int → Int) (L : Lrn) : Prop := Lat a 661 L
theorem P_X10_drafted_ok {es : List (List Int)} {f : Int → Int} {L : Lrn} {Q : Int → zMem → Prop} {M : zMem} (hA : AL (M.2 584) 0 es.flatten) (h4 : es.flatten.length ≤ 400) (hne : es.flatten ≠ []) (he : ∀ e ∈ es, eOK e) (hb : allB es.flatten) (hf : agr (M.2 582) f) (hW : WFz f) (hg : trmOK (M.2 579)) (hL : lrnOK L) (hLat : Lat (M.2 582) 661 L)
    (hQ0 : (gr (M.2 579) es f L 0 0).1 < 0 → ∀ M', Fr fDd M M' → M'.1 615 = (gr (M.2 579) es f L 0 0).2.1 → Q (gr (M.2 579) es f L 0 0).1 M')
    (hQ1 : 0 ≤ (gr (M.2 579) es f L 0 0).1 → ∀ M', Fr fDd M M' → M'.1 615 = -1 → agr (M'.2 583) (gr (M.2 579) es f L 0 0).2.2.1 → Lat (M'.2 583) 661 (gr (M.2 579) es f L 0 0).2.2.2 → (0 ≤ M'.1 606 ∧ M'.1 606 < 1024) → (∀ p, 0 ≤ p → p < 10 → (dfB (gr (M.2 579) es f L 0 0).2.2.1 f p → bt (M'.1 606) p = 1) ∧ (¬ dfB (gr (M.2 579) es f L 0 0).2.2.1 f p → bt (M'.1 606) p = 0)) → Q (gr (M.2 579) es f L 0 0).1 M') : T_X10_drafted es.flatten.length Q M := by
  have h0 : 0 < es.flatten.length := by
    cases hq : es.flatten with
    | nil => exact absurd hq hne
    | cons a b => simp
  unfold T_X10_drafted
  apply P_X10_drafts
  intro M19 hF19 d1 d2 M20 hM20
  have F20 : Fr fDd M M20 := by rw [hM20]; exact Fr_trans (Fr_mono hF19 (fun k h => Or.inl h)) (Fr_setS (Or.inr (Or.inr rfl)))
  have s20 : M20.2 = M19.2 := by rw [hM20]; rfl
  refine ⟨fun _ => ?_, fun q => by omega⟩
  have hz : es.flatten.length = (es.flatten ++ ([] : List Int)).length := by rw [List.append_nil]
  rw [hz]
  apply P_X10_drafted_18 (by rw [List.append_nil, F20.2 584 (by unfold fDd fDr fEr fLr fTr fUr fSg fSr fTyr fRp; decide)]; exact hA) (by rw [List.append_nil]; exact h4) (Or.inl rfl) he (by rw [List.append_nil]; exact hb)
  · intro _ M1 hF1
    have F1 : Fr fDd M M1 := Fr_trans F20 (Fr_mono hF1 (fun k h => Or.inr (Or.inr h)))
    have e583 : M1.2 583 = M19.2 583 := by rw [hF1.2 583 (by decide), s20]
    have e579 : M1.2 579 = M.2 579 := F1.2 579 (by unfold fDd fDr fEr fLr fTr fUr fSg fSr fTyr fRp; decide)
    have e606 : M1.1 606 = 0 := by rw [hF1.1 606 (by decide), hM20]; exact d2
    apply P_X10_drafted_77 (f := f) (f0 := f) (L := L) (by rw [F1.2 584 (by unfold fDd fDr fEr fLr fTr fUr fSg fSr fTyr fRp; decide)]; exact hA) h4 he
    · intro j j0 j1; rw [e583, d1 j j0 (by omega)]; exact hf j j0 j1
    · rw [F1.2 582 (by unfold fDd fDr fEr fLr fTr fUr fSg fSr fTyr fRp; decide)]; exact hf
    · exact hW
    · rw [e579]; exact hg
    · exact hL
    · unfold Lat at hLat ⊢
      rw [e583, d1 661 (by omega) (by omega), d1 (661 + 1) (by omega) (by omega), d1 (661 + 2) (by omega) (by omega), d1 (661 + 3) (by omega) (by omega)]
      exact hLat
    · omega
    · rw [e579]
      exact fun h M' hF' => hQ0 h M' (Fr_trans F1 hF')
    · rw [e579]
      exact fun h M' hF' => hQ1 h M' (Fr_trans F1 hF')
  · intro hbd
    exact absurd rfl hbd.1
theorem P_X10_drafted_no {es : List (List Int)} {rest : List Int} {Q : Int → zMem → Prop} {M : zMem} (hA : AL (M.2 584) 0 (es.flatten ++ rest)) (h4 : (es.flatten ++ rest).length ≤ 400) (hr : badE rest) (he : ∀ e ∈ es, eOK e) (hb : allB (es.flatten ++ rest)) (hQ : ∀ M', Fr fDd M M' → M'.1 615 = es.flatten.length → Q (-6) M') : T_X10_drafted (es.flatten ++ rest).length Q M := by
  unfold T_X10_drafted
  apply P_X10_drafts
  intro M19 hF19 d1 d2 M20 hM20
  have F20 : Fr fDd M M20 := by rw [hM20]; exact Fr_trans (Fr_mono hF19 (fun k h => Or.inl h)) (Fr_setS (Or.inr (Or.inr rfl)))
  have h0 : 0 < rest.length := by
    cases hq : rest with
    | nil => exact absurd hq hr.1
    | cons a b => simp
  refine ⟨fun _ => ?_, fun q => by rw [List.length_append] at q; omega⟩
  apply P_X10_drafted_18 (by rw [F20.2 584 (by unfold fDd fDr fEr fLr fTr fUr fSg fSr fTyr fRp; decide)]; exact hA) h4 (Or.inr hr) he hb
  · intro h; exact absurd h hr.1
  · intro _ M' hF' h615
    exact hQ M' (Fr_trans F20 (Fr_mono hF' (fun k h => Or.inr (Or.inr h)))) h615
theorem P_X10_drafted_nil {Q : Int → zMem → Prop} {M : zMem} (hQ : ∀ M', Fr fDd M M' → M'.1 615 = 0 → Q (-6) M') : T_X10_drafted 0 Q M := by
  unfold T_X10_drafted
  apply P_X10_drafts
  intro M19 hF19 d1 d2 M20 hM20
  refine ⟨fun q => absurd rfl q, fun _ => hQ M20 ?_ (by rw [hM20]; rfl)⟩
  rw [hM20]; exact Fr_trans (Fr_mono hF19 (fun k h => Or.inl h)) (Fr_setS (Or.inr (Or.inr rfl)))
