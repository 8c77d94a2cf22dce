theorem zl0_ruleN {F : (zMem → Prop) → zMem → Prop} (I : Nat → zMem → Prop) (hs : ∀ (X : zMem → Prop) (n : Nat) (M : zMem), I n M → (∀ (m : Nat) (M2 : zMem), m < n → I m M2 → X M2) → F X M) : ∀ (n : Nat) (M : zMem), I n M → zl0 F M := by
  intro n M hI X hX
  have h : ∀ (k n : Nat) (M : zMem), n ≤ k → I n M → X M := by
    intro k
    induction k with
    | zero =>
      intro n M hn hI
      exact hX M (hs X n M hI (fun m M2 hm _ => by omega))
    | succ k ih =>
      intro n M hn hI
      exact hX M (hs X n M hI (fun m M2 hm h => ih m M2 (by omega) h))
  exact h n n M (Nat.le_refl n) hI
def StkR (r : Rec) (wl wh : Int → Int) : List RS → Prop
  | [] => True
  | rs :: t => (0 ≤ wl t.length ∧ wl t.length ≤ wh t.length + 1 ∧ wh t.length ≤ 255) ∧ rs = rI r (wl t.length) (wh t.length + 1) ∧ StkR r wl wh t
theorem StkR_congr {r : Rec} {wl wl' wh wh' : Int → Int} : ∀ (st : List RS), (∀ j : Int, 0 ≤ j → j < st.length → wl' j = wl j ∧ wh' j = wh j) → StkR r wl wh st → StkR r wl' wh' st
  | [], _, h => h
  | rs :: t, he, h => by
    have e := he t.length (by omega) (by simp only [List.length_cons]; omega)
    obtain ⟨h1, h2, h3⟩ := h
    refine ⟨by rw [e.1, e.2]; exact h1, by rw [e.1, e.2]; exact h2, ?_⟩
    exact StkR_congr t (fun j h0 hj => he j h0 (by simp only [List.length_cons]; omega)) h3
def PartsR (r : Rec) (pl ph : Int → Int) (acc : List RS) : Prop := ∀ k : Nat, k < acc.length → (0 ≤ pl k ∧ pl k ≤ ph k + 1 ∧ ph k ≤ 255) ∧ acc[k]? = some (rI r (pl k) (ph k + 1))
theorem P_X10_waits {a b : Int} {Q : zMem → Prop} {M : zMem} (h : 0 ≤ M.1 603 ∧ M.1 603 < 260) (hQ : ∀ M', Fr (fun k => k = 601 ∨ k = 602 ∨ k = 603) M M' → M'.1 603 = M.1 603 + 1 → M'.2 601 = upI (M.2 601) (M.1 603) a → M'.2 602 = upI (M.2 602) (M.1 603) b → Q M') : T_X10_waits a b Q M := by
  unfold T_X10_waits
  refine ⟨h, fun M1 hM1 => ?_⟩
  have e1 : M1.1 603 = M.1 603 := by rw [hM1]; rfl
  rw [e1]
  refine ⟨h, fun M2 hM2 => ?_⟩
  have e2 : M2.1 603 = M.1 603 := by rw [hM2]; exact e1
  rw [e2]
  refine ⟨inR_mk (by omega) (by omega), fun M3 hM3 => ?_⟩
  apply hQ
  · rw [hM3, hM2, hM1]
    exact Fr_trans (Fr_setA (Or.inl rfl)) (Fr_trans (Fr_setA (Or.inr (Or.inl rfl))) (Fr_setS (Or.inr (Or.inr rfl))))
  · rw [hM3]; rfl
  · rw [hM3, hM2, hM1]; rfl
  · rw [hM3, hM2, hM1]; rfl
def fSr : Nat → Prop := fun k => fTyr k ∨ k = 598 ∨ k = 599 ∨ k = 600 ∨ k = 601 ∨ k = 602 ∨ k = 603
def srInv (g : Int → Int) (r : Rec) (L0 : Lrn) (M0 : zMem) (n : Nat) (M : zMem) : Prop :=
  ∃ st L acc, spG g n st L acc = spRes g r L0 ∧ smu st ≤ n ∧ M.1 600 = acc.length ∧ M.1 603 = st.length ∧ StkR r (M.2 601) (M.2 602) st ∧ PartsR r (M.2 598) (M.2 599) acc ∧ dpt st ∧ (acc ++ st).flatten = rI r 0 256 ∧ neP (acc ++ st) ∧ lrnOK L ∧ Lat (M.2 583) 661 L ∧ (∀ j, j < 661 → M.2 583 j = M0.2 583 j) ∧ Fr fSr M0 M
theorem P_X10_spreads {r : Rec} {L0 : Lrn} {Q : zMem → Prop} {M0 : zMem} (hT0 : tabR M0 r) (hR : RecOK r) (h4 : (plain (rI r 0 256)).length ≤ 400) (hg : trmOK (M0.2 579)) (hL0 : lrnOK L0) (hA0 : Lat (M0.2 583) 661 L0) (h600 : M0.1 600 = 0)
    (hQ : ∀ M', Fr fSr M0 M' → M'.1 600 = (spRes (M0.2 579) r L0).1.length → PartsR r (M'.2 598) (M'.2 599) (spRes (M0.2 579) r L0).1 → (∀ j, j < 661 → M'.2 583 j = M0.2 583 j) → Lat (M'.2 583) 661 (spRes (M0.2 579) r L0).2 → Q M') : T_X10_spreads Q M0 := by
  obtain ⟨g, hg0⟩ : ∃ g, g = M0.2 579 := ⟨_, rfl⟩
  rw [← hg0] at hg hQ
  unfold T_X10_spreads
  intro M12 hM12
  have e603 : M12.1 603 = 0 := by rw [hM12]; rfl
  apply P_X10_waits (by omega)
  intro M13 hF13 c1 c2 c3
  rw [e603] at c1 c2 c3
  unfold T_X10_spreads_13
  have hrl := rI_len r (low := 0) (high := 256) (by omega)
  refine zl0_ruleN (srInv g r L0 M0) ?_ 512 M13 ?_
  · intro X n M ⟨st, L, acc, e1, e2, e3, e4, e5, e6, e7, e8, e9, e10, e11, e12, e13⟩ hX
    refine ⟨fun h => ?_, fun h => ?_⟩
    · have hs : st = [] := by cases st with | nil => rfl | cons a b => simp at e4; omega
      rw [hs, spG_nil] at e1
      apply hQ M e13
      · rw [← e1]; exact e3
      · rw [← e1]; exact e6
      · exact e12
      · rw [← e1]; exact e11
    · cases st with
      | nil => simp at e4; omega
      | cons rs t =>
        have hac : (acc ++ rs :: t).length ≤ 256 := by
          rcases e9 with e9 | e9
          · have := flat_ne_len e9; rw [e8] at this; omega
          · omega
        rw [List.length_append, List.length_cons] at hac
        rw [List.length_cons] at e4
        have ht : M.1 603 - 1 = t.length := by omega
        obtain ⟨m, hm⟩ : ∃ m, n = m + 1 := ⟨n - 1, by have := smu_pop rs t; omega⟩
        rw [hm] at e1 e2 hX
        rw [ht]
        refine ⟨inR_mk (by omega) (by omega), fun M2 hM2 => ?_⟩
        have m603 : M2.1 603 = t.length := by rw [hM2]; rfl
        have m2 : M2.2 = M.2 := by rw [hM2]; rfl
        have m1 : ∀ k, k ≠ 603 → M2.1 k = M.1 k := fun k hk => by rw [hM2]; exact if_neg hk
        rw [m603, m2]
        obtain ⟨wl, hwl⟩ : ∃ w, w = M.2 601 := ⟨_, rfl⟩
        obtain ⟨wh, hwh⟩ : ∃ w, w = M.2 602 := ⟨_, rfl⟩
        rw [← hwl, ← hwh] at e5
        rw [← hwl, ← hwh]
        obtain ⟨s1, s2, s3⟩ := e5
        obtain ⟨low, hlow⟩ : ∃ w, w = wl t.length := ⟨_, rfl⟩
        obtain ⟨high, hhigh⟩ : ∃ w, w = wh t.length := ⟨_, rfl⟩
        rw [← hlow, ← hhigh] at s1 s2 ⊢
        have F2 : Fr fSr M M2 := by rw [hM2]; exact Fr_setS (Or.inr (Or.inr (Or.inr (Or.inr (Or.inr (Or.inr rfl))))))
        have FA := Fr_trans e13 F2
        have hT : tabR M2 r := by
          unfold tabR
          rw [FA.2 596 (by unfold fSr fTyr fRp; decide), FA.2 597 (by unfold fSr fTyr fRp; decide)]
          exact hT0
        have hTy : ∀ M7, Fr fTyr M2 M7 → tabR M7 r := by
          intro M7 hF
          unfold tabR
          rw [hF.2 596 (by unfold fTyr fRp; decide), hF.2 597 (by unfold fTyr fRp; decide)]
          exact hT
        have e579 : M2.2 579 = g := by rw [hg0]; exact FA.2 579 (by unfold fSr fTyr fRp; decide)
        have hpl : (plain rs).length ≤ 400 := by
          have := plain_mem_le (l := acc ++ rs :: t) (rs := rs) (List.mem_append_right _ List.mem_cons_self)
          rw [e8] at this; omega
        have split : ∀ L2 M4, lrnOK L2 → 1 < rs.length → spG g m (halfT rs :: halfD rs :: t) L2 acc = spRes g r L0 → Fr fTyr M2 M4 → Lat (M4.2 583) 661 L2 → (∀ j, j < 661 → M4.2 583 j = M2.2 583 j) → T_X10_middleOf low high (fun y6 => T_X10_waits y6 high (fun M7 => inR (y6 - 1) ∧ (T_X10_waits low (y6 - 1) (fun M8 => T_X10_spreads_113 X Q M8) M7)) M4) M4 := by
          intro L2 M4 hL2 hlen2 hsp hF4 hLat hrow
          have htl := dpt_len e7 hlen2
          apply P_X10_middleOf (hTy M4 hF4) s1
          intro c hc hc1 hc2
          rw [← s2] at hc1 hc2
          have m4 : M4.1 603 = t.length := by rw [hF4.1 603 (by unfold fTyr fRp; decide)]; exact m603
          apply P_X10_waits (by omega)
          intro M7 hF7 w1 w2 w3
          refine ⟨inR_mk (by omega) (by omega), ?_⟩
          rw [m4] at w1 w2 w3
          apply P_X10_waits (by omega)
          intro M8 hF8 x1 x2 x3
          unfold T_X10_spreads_113
          rw [w1] at x1 x2 x3
          rw [w2] at x2
          rw [w3] at x3
          have y1 : M4.2 601 = wl := by rw [hF4.2 601 (by unfold fTyr fRp; decide), m2, hwl]
          have y2 : M4.2 602 = wh := by rw [hF4.2 602 (by unfold fTyr fRp; decide), m2, hwh]
          rw [y1] at x2
          rw [y2] at x3
          have hsm := smu_split rs t hlen2
          apply hX m M8 (by omega)
          have F8 : ∀ k, (¬ (k = 601 ∨ k = 602 ∨ k = 603)) → M8.1 k = M4.1 k ∧ M8.2 k = M4.2 k := fun k hk => ⟨(hF8.1 k hk).trans (hF7.1 k hk), (hF8.2 k hk).trans (hF7.2 k hk)⟩
          refine ⟨halfT rs :: halfD rs :: t, L2, acc, hsp, by omega, ?_, ?_, ?_, ?_, dpt_split e7, ?_, ne_split hlen2 e9, hL2, ?_, ?_, ?_⟩
          · rw [(F8 600 (by decide)).1, hF4.1 600 (by unfold fTyr fRp; decide), m1 600 (by decide)]; exact e3
          · rw [x1]; simp only [List.length_cons]; omega
          · have q1 : M8.2 601 ((halfD rs :: t).length : Int) = low := by
              rw [x2]; unfold upI; rw [if_pos (by simp only [List.length_cons]; omega)]
            have q2 : M8.2 602 ((halfD rs :: t).length : Int) = c - 1 := by
              rw [x3]; unfold upI; rw [if_pos (by simp only [List.length_cons]; omega)]
            have q3 : M8.2 601 (t.length : Int) = c := by
              rw [x2]; unfold upI; rw [if_neg (by omega), if_pos rfl]
            have q4 : M8.2 602 (t.length : Int) = high := by
              rw [x3]; unfold upI; rw [if_neg (by omega), if_pos rfl]
            have q5 : c - 1 + 1 = c := by omega
            refine ⟨by rw [q1, q2]; omega, ?_, ?_, ?_, ?_⟩
            · rw [q1, q2, q5, hc1]; rfl
            · rw [q3, q4]; omega
            · rw [q3, q4, hc2]; rfl
            · refine StkR_congr t (fun j h0 hj => ⟨?_, ?_⟩) s3
              · rw [x2]; unfold upI; rw [if_neg (by omega), if_neg (by omega)]
              · rw [x3]; unfold upI; rw [if_neg (by omega), if_neg (by omega)]
          · rw [(F8 598 (by decide)).2, (F8 599 (by decide)).2, hF4.2 598 (by unfold fTyr fRp; decide), hF4.2 599 (by unfold fTyr fRp; decide), m2]; exact e6
          · rw [flat_split]; exact e8
          · rw [(F8 583 (by decide)).2]; exact hLat
          · intro j hj
            rw [(F8 583 (by decide)).2, hrow j hj, m2]; exact e12 j hj
          · refine Fr_trans FA (Fr_trans (Fr_mono hF4 (fun k h => Or.inl h)) (Fr_trans (Fr_mono hF7 ?_) (Fr_mono hF8 ?_)))
            all_goals
              intro k h
              rcases h with h | h | h
              · exact Or.inr (Or.inr (Or.inr (Or.inr (Or.inl h))))
              · exact Or.inr (Or.inr (Or.inr (Or.inr (Or.inr (Or.inl h)))))
              · exact Or.inr (Or.inr (Or.inr (Or.inr (Or.inr (Or.inr h)))))
        refine ⟨⟨by omega, by omega⟩, ⟨by omega, by omega⟩, ?_⟩
        apply P_X10_isPart (L := L) hT hR s1 (by rw [← s2]; exact hpl) (by rw [e579]; exact hg) e10 (by rw [m2]; exact e11)
        · rw [← s2]
          intro hb
          refine ⟨fun _ => ?_, fun q => absurd rfl q⟩
          rw [spG_big hb] at e1
          exact split L M2 e10 hb.1 e1 (Fr_refl M2) (by rw [m2]; exact e11) (fun _ _ => rfl)
        · rw [← s2, e579]
          intro hnb M4 hF4 hrow hL4
          rcases fitS_01 rs (g 0) with hf | hf
          · rw [hf]
            rw [hf] at hL4
            refine ⟨fun _ => ?_, fun q => absurd rfl q⟩
            rw [spG_not hnb hf] at e1
            exact split _ M4 (lrnOK_S hg e10) (fit0_len hf) e1 hF4 hL4 hrow
          · rw [hf]
            rw [hf] at hL4
            refine ⟨fun q => by omega, fun _ => ?_⟩
            rw [spG_fit hnb hf] at e1
            have n600 : M4.1 600 = acc.length := by rw [hF4.1 600 (by unfold fTyr fRp; decide), m1 600 (by decide)]; exact e3
            rw [n600]
            refine ⟨⟨by omega, by omega⟩, fun M9 hM9 => ?_⟩
            have n9 : M9.1 600 = acc.length := by rw [hM9]; exact n600
            rw [n9]
            refine ⟨⟨by omega, by omega⟩, fun M10 hM10 => ?_⟩
            have n10 : M10.1 600 = acc.length := by rw [hM10]; exact n9
            rw [n10]
            refine ⟨inR_mk (by omega) (by omega), fun M11 hM11 => ?_⟩
            unfold T_X10_spreads_113
            have hsm := smu_pop rs t
            apply hX m M11 (by omega)
            have p598 : M11.2 598 = upI (M.2 598) acc.length low := by
              rw [hM11, hM10, hM9]
              show upI (M4.2 598) _ _ = _
              rw [hF4.2 598 (by unfold fTyr fRp; decide), m2]
            have p599 : M11.2 599 = upI (M.2 599) acc.length high := by
              rw [hM11, hM10, hM9]
              show upI (M4.2 599) _ _ = _
              rw [hF4.2 599 (by unfold fTyr fRp; decide), m2]
            have F11 : ∀ k, (k ≠ 598 ∧ k ≠ 599) → M11.2 k = M4.2 k := fun k hk => by
              rw [hM11, hM10, hM9]
              show (if k = 599 then _ else if k = 598 then _ else M4.2 k) = _
              rw [if_neg hk.2, if_neg hk.1]
            have G11 : ∀ k, k ≠ 600 → M11.1 k = M4.1 k := fun k hk => by
              rw [hM11, hM10, hM9]; exact if_neg hk
            refine ⟨t, lrnG g 1 L, acc ++ [rs], e1, by omega, ?_, ?_, ?_, ?_, e7.2, ?_, ?_, lrnOK_S hg e10, ?_, ?_, ?_⟩
            · rw [hM11, List.length_append]
              show (acc.length : Int) + 1 = _
              simp only [List.length_cons, List.length_nil]; omega
            · rw [G11 603 (by decide), hF4.1 603 (by unfold fTyr fRp; decide)]; exact m603
            · rw [F11 601 (by decide), F11 602 (by decide), hF4.2 601 (by unfold fTyr fRp; decide), hF4.2 602 (by unfold fTyr fRp; decide), m2, ← hwl, ← hwh]; exact s3
            · intro k hk
              rw [List.length_append] at hk
              simp only [List.length_cons, List.length_nil] at hk
              rw [p598, p599]
              unfold upI
              by_cases hka : k = acc.length
              · rw [if_pos (by omega), if_pos (by omega)]
                refine ⟨s1, ?_⟩
                rw [hka, List.getElem?_append_right (Nat.le_refl _), Nat.sub_self, s2]; rfl
              · rw [if_neg (by omega), if_neg (by omega)]
                have := e6 k (by omega)
                refine ⟨this.1, ?_⟩
                rw [List.getElem?_append_left (by omega)]; exact this.2
            · rw [← app_move]; exact e8
            · rw [← app_move]; exact e9
            · rw [F11 583 (by decide)]; exact hL4
            · intro j hj
              rw [F11 583 (by decide), hrow j hj, m2]; exact e12 j hj
            · refine Fr_trans FA (Fr_trans (Fr_mono hF4 (fun k h => Or.inl h)) ?_)
              rw [hM11, hM10, hM9]
              exact Fr_trans (Fr_setA (Or.inr (Or.inl rfl))) (Fr_trans (Fr_setA (Or.inr (Or.inr (Or.inl rfl)))) (Fr_setS (Or.inr (Or.inr (Or.inr (Or.inl rfl))))))
  · have F12 : ∀ k, ¬ (k = 601 ∨ k = 602 ∨ k = 603) → M13.1 k = M0.1 k ∧ M13.2 k = M0.2 k := fun k hk => ⟨by rw [hF13.1 k hk, hM12]; exact if_neg (fun h => hk (Or.inr (Or.inr h))), by rw [hF13.2 k hk, hM12]; rfl⟩
    refine ⟨[rI r 0 256], L0, [], rfl, ?_, ?_, c1, ?_, ?_, ?_, by simp, Or.inr rfl, hL0, ?_, ?_, ?_⟩
    · have : smu [rI r 0 256] = (2 * max (rI r 0 256).length 1 - 1) + 0 := rfl
      rw [this]
      omega
    · rw [(F12 600 (by decide)).1]; exact h600
    · have q1 : M13.2 601 ((([] : List RS).length : Nat) : Int) = 0 := by rw [c2]; rfl
      have q2 : M13.2 602 ((([] : List RS).length : Nat) : Int) = 255 := by rw [c3]; rfl
      refine ⟨by rw [q1, q2]; omega, ?_, trivial⟩
      rw [q1, q2]; rfl
    · intro k hk; simp at hk
    · refine ⟨?_, trivial⟩
      simp only [List.length_nil]
      omega
    · rw [(F12 583 (by decide)).2]; exact hA0
    · intro j hj; rw [(F12 583 (by decide)).2]
    · have h1 : Fr fSr M0 M12 := by rw [hM12]; exact Fr_setS (Or.inr (Or.inr (Or.inr (Or.inr (Or.inr (Or.inr rfl))))))
      refine Fr_trans h1 (Fr_mono hF13 ?_)
      intro k h
      rcases h with h | h | h
      · exact Or.inr (Or.inr (Or.inr (Or.inr (Or.inl h))))
      · exact Or.inr (Or.inr (Or.inr (Or.inr (Or.inr (Or.inl h)))))
      · exact Or.inr (Or.inr (Or.inr (Or.inr (Or.inr (Or.inr h)))))
