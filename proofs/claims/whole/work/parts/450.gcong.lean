-- what is done depends on the first terms alone
def agT (g g' : Int → Int) : Prop := ∀ j, 0 ≤ j → j < 5 → g j = g' j
theorem agT_symm {g g' : Int → Int} (h : agT g g') : agT g' g := fun j a b => (h j a b).symm
theorem trmOK_agT {g g' : Int → Int} (h : agT g g') (hg : trmOK g) : trmOK g' := by
  have h0 := h 0 (by omega) (by omega)
  have h1 := h 1 (by omega) (by omega)
  have h2 := h 2 (by omega) (by omega)
  have h3 := h 3 (by omega) (by omega)
  have h4 := h 4 (by omega) (by omega)
  unfold trmOK at hg ⊢
  rw [← h0, ← h1, ← h2, ← h3, ← h4]
  exact hg
theorem lrnG_agT {g g' : Int → Int} (h : agT g g') (ok : Int) (L : Lrn) : lrnG g ok L = lrnG g' ok L := by
  unfold lrnG
  rw [h 1 (by omega) (by omega), h 2 (by omega) (by omega), h 3 (by omega) (by omega)]
theorem spG_agT {g g' : Int → Int} (h : agT g g') : ∀ (n : Nat) (st : List RS) (L : Lrn) (acc : List RS), spG g n st L acc = spG g' n st L acc
  | 0, _, _, _ => rfl
  | n + 1, [], _, _ => rfl
  | n + 1, rs :: st, L, acc => by
    rw [spG, spG, h 0 (by omega) (by omega), lrnG_agT h 1 L, lrnG_agT h 0 L, spG_agT h n, spG_agT h n, spG_agT h n]
theorem edW_agT {g g' f : Int → Int} {L : Lrn} {e : List Int} {i : Int} {pkd : List Int} {es : List (List Int)} {rs : RS} (h : agT g g') : edW g f L e i pkd es rs = edW g' f L e i pkd es rs := by
  unfold edW roomP spRes
  rw [h 0 (by omega) (by omega), spG_agT h]
theorem ed_agT {g g' f : Int → Int} {L : Lrn} {e : List Int} (h : agT g g') : ed g f L e = ed g' f L e := edW_agT h
theorem ext_agT {g g' : Int → Int} (h : agT g g') (full : Int) : ∀ (t pre : RS), ext g full pre t = ext g' full pre t
  | [], pre => rfl
  | x :: t, pre => by
    rw [ext, ext]
    unfold extC
    rw [h 0 (by omega) (by omega), ext_agT h full t]
theorem chk_agT {g g' : Int → Int} (h : agT g g') (full : Int) : ∀ (n : Nat) (rs : RS), chk g full n rs = chk g' full n rs
  | 0, _ => rfl
  | n + 1, [] => rfl
  | n + 1, x :: t => by rw [chk, chk, ext_agT h, chk_agT h full n]
theorem cps_agT {g g' : Int → Int} (h : agT g g') (full : Int) (rs : RS) : cps g full rs = cps g' full rs := by
  unfold cps
  rw [chk_agT h]
-- a draft is begun
def fBg : Nat → Prop := fun k => k = 128 ∨ k = 129 ∨ k = 130 ∨ k = 133
theorem cpA_in {f g : Int → Int} {n j : Int} (h : 0 ≤ j ∧ j < n) : cpA f g 0 0 n j = f j := by
  unfold cpA
  rw [if_pos (by omega)]
  congr 1; omega
theorem P_X1_begin {Q : zMem → Prop} {M : zMem} (hQ : ∀ M', Fr fBg M M' → agr (M'.2 128) (M.2 64) → (∀ j, 0 ≤ j → j < 4 → M'.2 129 j = M.2 1 j) → agT (M'.2 133) (M.2 0) → (∀ j, 0 ≤ j → j < 10 → M'.2 130 j = 0) → Q M') : T_X1_begin 64 1 0 Q M := by
  have a64 : alen 64 = 1334 := alen_64
  have a1 : alen 1 = 4 := alen_1
  have a0 : alen 0 = 5 := alen_0
  have a130 : alen 130 = 10 := alen_130
  unfold T_X1_begin
  refine ⟨⟨⟨by omega, by omega, by omega⟩, by omega, by omega, by omega, by omega⟩, fun M1 hM1 => ⟨⟨⟨by omega, by omega, by omega⟩, by omega, by omega, by omega, by omega⟩, fun M2 hM2 => ⟨⟨⟨by omega, by omega, by omega⟩, by omega, by omega, by omega, by omega⟩, fun M3 hM3 => ?_⟩⟩⟩
  apply P_J7_fill (by omega) (by omega)
  intro M4 hF4 hv4
  have F3 : Fr fBg M M3 := by
    rw [hM3, hM2, hM1]
    exact Fr_trans (Fr_trans (Fr_putA (Or.inl rfl)) (Fr_putA (Or.inr (Or.inl rfl)))) (Fr_putA (Or.inr (Or.inr (Or.inr rfl))))
  have e128 : M3.2 128 = cpA (M.2 64) (M.2 128) 0 0 661 := by rw [hM3, hM2, hM1]; rfl
  have e129 : M3.2 129 = cpA (M.2 1) (M.2 129) 0 0 4 := by rw [hM3, hM2, hM1]; rfl
  have e133 : M3.2 133 = cpA (M.2 0) (M.2 133) 0 0 5 := by rw [hM3, hM2, hM1]; rfl
  refine hQ M4 (Fr_trans F3 (Fr_mono hF4 (fun k h => Or.inr (Or.inr (Or.inl h))))) ?_ ?_ ?_ ?_
  · intro j j0 j1
    rw [hF4.2 128 (by decide), e128]; exact cpA_in ⟨j0, j1⟩
  · intro j j0 j1
    rw [hF4.2 129 (by decide), e129]; exact cpA_in ⟨j0, j1⟩
  · intro j j0 j1
    rw [hF4.2 133 (by decide), e133]; exact cpA_in ⟨j0, j1⟩
  · intro j j0 j1
    exact hv4 j j0 (by omega)
def fDr : Nat → Prop := fun k => k = 583 ∨ k = 606
theorem P_X10_drafts {Q : zMem → Prop} {M : zMem} (hQ : ∀ M', Fr fDr M M' → (∀ j, 0 ≤ j → j < 665 → M'.2 583 j = M.2 582 j) → M'.1 606 = 0 → Q M') : T_X10_drafts Q M := by
  unfold T_X10_drafts T_X10_drafts_2
  apply zl1_rule (fun v1 M1 => (0 ≤ v1 ∧ v1 ≤ 665) ∧ Fr fDr M M1 ∧ ∀ j, 0 ≤ j → j < v1 → M1.2 583 j = M.2 582 j) (fun v1 _ => (665 - v1).toNat)
  · intro X v1 M1 ⟨h1, h2, h3⟩ hX
    refine ⟨fun q M2 hM2 => ?_, fun q => ⟨⟨by omega, by omega⟩, ⟨by omega, by omega⟩, fun M3 hM3 => ⟨inR_mk (by omega) (by omega), hX _ _ ⟨by omega, ?_, ?_⟩ (by omega)⟩⟩⟩
    · refine hQ M2 (by rw [hM2]; exact Fr_trans h2 (Fr_setS (Or.inr rfl))) ?_ (by rw [hM2]; rfl)
      have : v1 = 665 := by omega
      rw [this] at h3
      rw [hM2]; exact h3
    · rw [hM3]; exact Fr_trans h2 (Fr_setA (Or.inl rfl))
    · intro j j0 j1
      have e : M3.2 583 = upI (M1.2 583) v1 (M1.2 582 v1) := by rw [hM3]; rfl
      rw [e, h2.2 582 (by unfold fDr; decide)]
      unfold upI
      by_cases q1 : j = v1
      · rw [if_pos q1, q1]
      · rw [if_neg q1]; exact h3 j j0 (by omega)
  · exact ⟨by omega, Fr_refl M, fun j a b => by omega⟩
-- which blocks differ
def dfB (f h : Int → Int) (p : Int) : Prop := ∃ j, 64 * p ≤ j ∧ j < 64 * p + 64 ∧ f j ≠ h j
theorem P_X1_markDifferent {Q : zMem → Prop} {M : zMem} (hQ : ∀ M', Fr (fun k => k = 130) M M' → (∀ p, 0 ≤ p → p < 10 → (dfB (M.2 128) (M.2 64) p → M'.2 130 p = 1) ∧ (¬ dfB (M.2 128) (M.2 64) p → M'.2 130 p = 0)) → Q M') : T_X1_markDifferent 64 Q M := by
  have a64 : alen 64 = 1334 := alen_64
  unfold T_X1_markDifferent T_X1_markDifferent_2
  apply zl1_rule (fun v2 M1 => (0 ≤ v2 ∧ v2 ≤ 10) ∧ Fr (fun k => k = 130) M M1 ∧ ∀ p, 0 ≤ p → p < v2 → (dfB (M.2 128) (M.2 64) p → M1.2 130 p = 1) ∧ (¬ dfB (M.2 128) (M.2 64) p → M1.2 130 p = 0)) (fun v2 _ => (10 - v2).toNat)
  · intro X v2 M1 ⟨h1, h2, h3⟩ hX
    refine ⟨fun q => ?_, fun q => ⟨⟨by omega, by omega⟩, fun M5 hM5 => ⟨inR_mk (by omega) (by omega), ?_⟩⟩⟩
    · have : v2 = 10 := by omega
      rw [this] at h3
      exact hQ M1 h2 h3
    · unfold T_X1_markDifferent_20
      apply zl1_rule (fun v3 M2 => (64 * v2 ≤ v3 ∧ v3 ≤ 64 * v2 + 64) ∧ Fr (fun k => k = 130) M M2 ∧ (∀ p, 0 ≤ p → p < v2 → M2.2 130 p = M1.2 130 p) ∧ ((∃ j, 64 * v2 ≤ j ∧ j < v3 ∧ M.2 128 j ≠ M.2 64 j) → M2.2 130 v2 = 1) ∧ (¬ (∃ j, 64 * v2 ≤ j ∧ j < v3 ∧ M.2 128 j ≠ M.2 64 j) → M2.2 130 v2 = 0)) (fun v3 _ => (64 * v2 + 64 - v3).toNat)
      · intro X2 v3 M2 ⟨k1, k2, k3, k4, k5⟩ hX2
        have e128 : M2.2 128 = M.2 128 := k2.2 128 (by decide)
        have e64 : M2.2 64 = M.2 64 := k2.2 64 (by decide)
        refine ⟨inR_mk (by omega) (by omega), inR_mk (by omega) (by omega), fun q2 => ⟨inR_mk (by omega) (by omega), hX _ _ ⟨by omega, k2, ?_⟩ (by omega)⟩, fun q2 => ⟨⟨by omega, by omega⟩, ⟨by omega, by omega⟩, fun q3 => ?_, fun q3 => ⟨⟨by omega, by omega⟩, fun M3 hM3 => ?_⟩⟩⟩
        · intro p p0 p1
          by_cases q4 : p = v2
          · have e3 : v3 = 64 * v2 + 64 := by omega
            rw [e3] at k4 k5
            rw [q4]
            exact ⟨k4, k5⟩
          · rw [k3 p p0 (by omega)]; exact h3 p p0 (by omega)
        · rw [e128, e64] at q3
          unfold T_X1_markDifferent_49
          refine ⟨inR_mk (by omega) (by omega), hX2 _ _ ⟨by omega, k2, k3, ?_, ?_⟩ (by omega)⟩
          · rintro ⟨j, j0, j1, j2⟩
            by_cases q4 : j = v3
            · rw [q4] at j2; exact absurd q3 j2
            · exact k4 ⟨j, j0, by omega, j2⟩
          · intro hn
            exact k5 (fun ⟨j, j0, j1, j2⟩ => hn ⟨j, j0, by omega, j2⟩)
        · rw [e128, e64] at q3
          have e3 : M3.2 130 = upI (M2.2 130) v2 1 := by rw [hM3]; rfl
          unfold T_X1_markDifferent_49
          refine ⟨inR_mk (by omega) (by omega), hX2 _ _ ⟨by omega, ?_, ?_, ?_, ?_⟩ (by omega)⟩
          · rw [hM3]; exact Fr_trans k2 (Fr_setA rfl)
          · intro p p0 p1
            rw [e3, upI_ne (by omega)]; exact k3 p p0 p1
          · intro _; rw [e3]; exact upI_same _ _ _
          · intro hn; exact absurd ⟨v3, by omega, by omega, q3⟩ hn
      · refine ⟨by omega, by rw [hM5]; exact Fr_trans h2 (Fr_setA rfl), fun p p0 p1 => ?_, fun ⟨j, j0, j1, _⟩ => by omega, fun _ => ?_⟩
        · have e : M5.2 130 = upI (M1.2 130) v2 0 := by rw [hM5]; rfl
          rw [e, upI_ne (by omega)]
        · have e : M5.2 130 = upI (M1.2 130) v2 0 := by rw [hM5]; rfl
          rw [e]; exact upI_same _ _ _
  · exact ⟨by omega, Fr_refl M, fun p a b => by omega⟩
theorem P_X10_drafted_137 {n : Int} {Q : Int → zMem → Prop} {M : zMem} (h0 : M.1 606 = 0) (hQ : ∀ M', Fr (fun k => k = 606) M M' → (0 ≤ M'.1 606 ∧ M'.1 606 < 1024) → (∀ p, 0 ≤ p → p < 10 → (dfB (M.2 583) (M.2 582) p → bt (M'.1 606) p = 1) ∧ (¬ dfB (M.2 583) (M.2 582) p → bt (M'.1 606) p = 0)) → Q n M') : T_X10_drafted_137 n Q 0 M := by
  unfold T_X10_drafted_137
  apply zl1_rule (fun v4 M1 => (0 ≤ v4 ∧ v4 ≤ 640) ∧ Fr (fun k => k = 606) M M1 ∧ (0 ≤ M1.1 606 ∧ M1.1 606 < 1024) ∧ ∀ p, 0 ≤ p → p < 10 → ((∃ j, 64 * p ≤ j ∧ j < 64 * p + 64 ∧ j < v4 ∧ M.2 583 j ≠ M.2 582 j) → bt (M1.1 606) p = 1) ∧ (¬ (∃ j, 64 * p ≤ j ∧ j < 64 * p + 64 ∧ j < v4 ∧ M.2 583 j ≠ M.2 582 j) → bt (M1.1 606) p = 0)) (fun v4 _ => (640 - v4).toNat)
  · intro X v4 M1 ⟨h1, h2, h3, h4⟩ hX
    have e583 : M1.2 583 = M.2 583 := h2.2 583 (by decide)
    have e582 : M1.2 582 = M.2 582 := h2.2 582 (by decide)
    refine ⟨fun q => ?_, fun q => ⟨⟨by omega, by omega⟩, ⟨by omega, by omega⟩, fun q3 => ?_, fun q3 M3 hM3 => ?_⟩⟩
    · refine hQ M1 h2 h3 (fun p p0 p1 => ?_)
      have := h4 p p0 p1
      exact ⟨fun ⟨j, j0, j1, j2⟩ => this.1 ⟨j, j0, j1, by omega, j2⟩, fun hn => this.2 (fun ⟨j, j0, j1, _, j2⟩ => hn ⟨j, j0, j1, j2⟩)⟩
    · rw [e583, e582] at q3
      unfold T_X10_drafted_178
      refine ⟨inR_mk (by omega) (by omega), hX _ _ ⟨by omega, h2, h3, fun p p0 p1 => ?_⟩ (by omega)⟩
      have := h4 p p0 p1
      refine ⟨fun ⟨j, j0, j1, j3, j2⟩ => ?_, fun hn => this.2 (fun ⟨j, j0, j1, j3, j2⟩ => hn ⟨j, j0, j1, by omega, j2⟩)⟩
      by_cases q4 : j = v4
      · rw [q4] at j2; exact absurd q3 j2
      · exact this.1 ⟨j, j0, j1, by omega, j2⟩
    · rw [e583, e582] at q3
      have ed : Int.tdiv v4 64 = v4 / 64 := tdiv_pos (by omega)
      rw [ed] at hM3
      have e3 : M3.1 606 = zor (M1.1 606) (zshl 1 (v4 / 64)) := by rw [hM3]; rfl
      unfold T_X10_drafted_178
      refine ⟨inR_mk (by omega) (by omega), hX _ _ ⟨by omega, ?_, ?_, fun p p0 p1 => ?_⟩ (by omega)⟩
      · rw [hM3]; exact Fr_trans h2 (Fr_setS rfl)
      · rw [e3]; exact or_b h3 (by omega)
      · rw [e3, bt_or h3 (by omega) ⟨p0, p1⟩]
        have := h4 p p0 p1
        by_cases q4 : p = v4 / 64
        · rw [if_pos q4]
          exact ⟨fun _ => rfl, fun hn => absurd ⟨v4, by omega, by omega, by omega, q3⟩ hn⟩
        · rw [if_neg q4]
          refine ⟨fun ⟨j, j0, j1, j3, j2⟩ => this.1 ⟨j, j0, j1, ?_, j2⟩, fun hn => this.2 (fun ⟨j, j0, j1, j3, j2⟩ => hn ⟨j, j0, j1, by omega, j2⟩)⟩
          omega
  · refine ⟨by omega, Fr_refl M, by omega, fun p p0 p1 => ⟨fun ⟨j, j0, j1, j3, _⟩ => by omega, fun _ => ?_⟩⟩
    rw [h0]; exact bt_0 ⟨p0, p1⟩
