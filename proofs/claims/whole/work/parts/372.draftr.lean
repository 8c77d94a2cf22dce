-- the reference's draft (583: image, then what is learned at 661; terms 579)
theorem P_X10_learns {ok : Int} {L : Int × Int × Int × Int} {Q : zMem → Prop} {M : zMem} (hg : trmOK (M.2 579)) (hL : lrnOK L) (hA : Lat (M.2 583) 661 L) (hQ : ∀ M', Fr (fun k => k = 583) M M' → (∀ j, j < 661 → M'.2 583 j = M.2 583 j) → Lat (M'.2 583) 661 (lrnS (M.2 579 1) (M.2 579 2) (M.2 579 3) ok L.1 L.2.1 L.2.2.1 L.2.2.2) → Q M') : T_X10_learns ok Q M := by
  obtain ⟨p, t, f, c⟩ := L
  obtain ⟨h1, h2, h3, h4⟩ := hL
  obtain ⟨a0, a1, a2, a3⟩ := hA
  obtain ⟨g0, g1, g2, g3, g4⟩ := hg
  dsimp only at h1 h2 h3 h4 a0 a1 a2 a3 hQ
  have a1 : M.2 583 662 = t := a1
  have a2 : M.2 583 663 = f := a2
  have a3 : M.2 583 664 = c := a3
  have a0 : M.2 583 661 = p := a0
  have h84 : ∀ (s : Int) (M1 : zMem), Fr (fun k => k = 583) M M1 → (∀ j, j < 661 → M1.2 583 j = M.2 583 j) → M1.2 583 661 = p → M1.2 583 664 = c → (∀ M', Fr (fun k => k = 583) M M' → (∀ j, j < 661 → M'.2 583 j = M.2 583 j) → Lat (M'.2 583) 661 (if s = 0 then (if c + 1 < 3 then (p, 0, 0, c + 1) else (max 0 (p - M.2 579 3), 0, 0, 0)) else (min 64 (p + M.2 579 3), 0, 0, 0)) → Q M') → T_X10_learns_84 s Q M1 := by
    intro s M1 hF hj e0 e3 hq
    have e579 : M1.2 579 = M.2 579 := hF.2 579 (by decide)
    unfold T_X10_learns_84
    refine ⟨⟨by omega, by omega⟩, fun M2 hM2 => ⟨⟨by omega, by omega⟩, fun M3 hM3 => ?_⟩⟩
    have eM3 : M3.2 583 = upI (upI (M1.2 583) 662 0) 663 0 := by rw [hM3, setA_2, if_pos rfl, hM2, setA_2, if_pos rfl]
    have hF3 : Fr (fun k => k = 583) M M3 := Fr_trans hF (Fr_trans (M' := M2) (by rw [hM2]; exact Fr_setA rfl) (by rw [hM3]; exact Fr_setA rfl))
    have e33 : M3.2 583 664 = c := by rw [eM3, upI_ne (by decide), upI_ne (by decide)]; exact e3
    have e30 : M3.2 583 661 = p := by rw [eM3, upI_ne (by decide), upI_ne (by decide)]; exact e0
    have e579' : M3.2 579 = M.2 579 := hF3.2 579 (by decide)
    have hj3 : ∀ j, j < 661 → M3.2 583 j = M.2 583 j := fun j q => by rw [eM3, upI_ne (by omega), upI_ne (by omega)]; exact hj j q
    rw [e33, e30, e579']
    refine ⟨fun hs => ?_, fun hs => ?_⟩
    · rw [if_pos hs] at hq
      refine ⟨⟨by omega, by omega⟩, inR_mk (by omega) (by omega), ⟨by omega, by omega⟩, fun M4 hM4 => ?_⟩
      have eM4 : M4.2 583 = upI (M3.2 583) 664 (c + 1) := by rw [hM4, setA_2, if_pos rfl]
      have e44 : M4.2 583 664 = c + 1 := by rw [eM4, upI_same]
      have hF4 : Fr (fun k => k = 583) M M4 := Fr_trans hF3 (by rw [hM4]; exact Fr_setA rfl)
      rw [e44]
      refine ⟨⟨by omega, by omega⟩, fun hc => ⟨⟨by omega, by omega⟩, fun M6 hM6 => ?_⟩, fun hc => ?_⟩
      · rw [if_neg (by omega)] at hq
        have eM6 : M6.2 583 = upI (M4.2 583) 664 0 := by rw [hM6, setA_2, if_pos rfl]
        have e61 : M6.2 583 661 = p := by rw [eM6, upI_ne (by decide), eM4, upI_ne (by decide)]; exact e30
        have hF6 : Fr (fun k => k = 583) M M6 := Fr_trans hF4 (by rw [hM6]; exact Fr_setA rfl)
        have e579'' : M6.2 579 = M.2 579 := hF6.2 579 (by decide)
        rw [e61, e579'']
        refine ⟨⟨by omega, by omega⟩, ⟨by omega, by omega⟩, fun hp => ⟨⟨by omega, by omega⟩, ⟨by omega, by omega⟩, inR_mk (by omega) (by omega), ⟨by omega, by omega⟩, fun M8 hM8 => hq M8 (Fr_trans hF6 (by rw [hM8]; exact Fr_setA rfl)) (fun j q => ?_) ?_⟩, fun hp => ⟨⟨by omega, by omega⟩, fun M9 hM9 => hq M9 (Fr_trans hF6 (by rw [hM9]; exact Fr_setA rfl)) (fun j q => ?_) ?_⟩⟩
        · rw [hM8, setA_2, if_pos rfl, upI_ne (by omega), eM6, upI_ne (by omega), eM4, upI_ne (by omega)]; exact hj3 j q
        · have e : M8.2 583 = upI (upI (upI (upI (upI (M1.2 583) 662 0) 663 0) 664 (c + 1)) 664 0) 661 (p - M.2 579 3) := by rw [hM8, setA_2, if_pos rfl, eM6, eM4, eM3]
          rw [e]
          refine ⟨?_, rfl, rfl, rfl⟩
          rw [upI_same]; dsimp only; omega
        · rw [hM9, setA_2, if_pos rfl, upI_ne (by omega), eM6, upI_ne (by omega), eM4, upI_ne (by omega)]; exact hj3 j q
        · have e : M9.2 583 = upI (upI (upI (upI (upI (M1.2 583) 662 0) 663 0) 664 (c + 1)) 664 0) 661 0 := by rw [hM9, setA_2, if_pos rfl, eM6, eM4, eM3]
          rw [e]
          refine ⟨?_, rfl, rfl, rfl⟩
          rw [upI_same]; dsimp only; omega
      · rw [if_pos (by omega)] at hq
        refine hq M4 hF4 (fun j q => ?_) ⟨?_, ?_, ?_, ?_⟩
        · rw [eM4, upI_ne (by omega)]; exact hj3 j q
        · rw [eM4, upI_ne (by decide)]; exact e30
        · rw [eM4, upI_ne (by decide), eM3]; rfl
        · rw [eM4, upI_ne (by decide), eM3]; rfl
        · exact e44
    · rw [if_neg hs] at hq
      have fin : ∀ (v : Int) (M8 : zMem), v = min 64 (p + M.2 579 3) → (M8.2 583 = upI (upI (M3.2 583) 661 v) 664 0) → Fr (fun k => k = 583) M M8 → Q M8 := by
        intro v M8 hv e8 hF8
        refine hq M8 hF8 (fun j q => ?_) ⟨?_, ?_, ?_, ?_⟩
        · rw [e8, upI_ne (by omega), upI_ne (by omega)]; exact hj3 j q
        · rw [e8, upI_ne (by decide), upI_same]; exact hv
        · rw [e8, eM3]; rfl
        · rw [e8, eM3]; rfl
        · rw [e8]; rfl
      have fin2 : ∀ (v : Int) (M5 M8 : zMem), v = min 64 (p + M.2 579 3) → M5 = setA M3 583 661 v → M8 = setA M5 583 664 0 → Q M8 := by
        intro v M5 M8 hv h5 h8
        exact fin v M8 hv (by rw [h8, setA_2, if_pos rfl, h5, setA_2, if_pos rfl]) (Fr_trans hF3 (Fr_trans (M' := M5) (by rw [h5]; exact Fr_setA rfl) (by rw [h8]; exact Fr_setA rfl)))
      refine ⟨⟨by omega, by omega⟩, ⟨by omega, by omega⟩, inR_mk (by omega) (by omega), fun q => ⟨⟨by omega, by omega⟩, ⟨by omega, by omega⟩, inR_mk (by omega) (by omega), ⟨by omega, by omega⟩, fun M5 hM5 => ⟨⟨by omega, by omega⟩, fun M8 hM8 => fin2 _ M5 M8 (by omega) hM5 hM8⟩⟩, fun q => ⟨⟨by omega, by omega⟩, fun M5 hM5 => ⟨⟨by omega, by omega⟩, fun M8 hM8 => fin2 _ M5 M8 (by omega) hM5 hM8⟩⟩⟩
  have h30 : ∀ (d f1 : Int) (M1 : zMem), f1 = (if ok = 0 then f + 1 else f) → f + d = f1 → Fr (fun k => k = 583) M M1 → (∀ j, j < 661 → M1.2 583 j = M.2 583 j) → M1.2 583 661 = p → M1.2 583 662 = t + 1 → M1.2 583 664 = c → T_X10_learns_30 663 f d Q M1 := by
    intro d f1 M1 hf1 hd hF hj e0 e1 e3
    have hf1b : 0 ≤ f1 ∧ f1 ≤ 16 := by rw [hf1]; split <;> omega
    have hmul := mul_b g2 (b := t + 1) ⟨by omega, by omega⟩
    unfold lrnS at hQ
    rw [← hf1] at hQ
    unfold T_X10_learns_30
    rw [hd]
    refine ⟨inR_mk (by omega) (by omega), ⟨by omega, by omega⟩, fun M2 hM2 => ?_⟩
    have eM2 : M2.2 583 = upI (M1.2 583) 663 f1 := by rw [hM2, setA_2, if_pos rfl]
    have hF2 : Fr (fun k => k = 583) M M2 := Fr_trans hF (by rw [hM2]; exact Fr_setA rfl)
    have e579 : M2.2 579 = M.2 579 := hF2.2 579 (by decide)
    have e22 : M2.2 583 662 = t + 1 := by rw [eM2, upI_ne (by decide)]; exact e1
    have e23 : M2.2 583 663 = f1 := by rw [eM2, upI_same]
    have e20 : M2.2 583 661 = p := by rw [eM2, upI_ne (by decide)]; exact e0
    have e24 : M2.2 583 664 = c := by rw [eM2, upI_ne (by decide)]; exact e3
    have hj2 : ∀ j, j < 661 → M2.2 583 j = M.2 583 j := fun j q => by rw [eM2, upI_ne (by omega)]; exact hj j q
    rw [e22, e23, e579]
    refine ⟨⟨by omega, by omega⟩, ⟨by omega, by omega⟩, fun hr => ?_, fun hr => ?_⟩
    · rw [if_neg (by omega)] at hQ
      refine ⟨⟨by omega, by omega⟩, inR_mk (by omega) (by omega), ⟨by omega, by omega⟩, ⟨by omega, by omega⟩, inR_mk (by omega) (by omega), fun hm => ?_, fun hm => ?_⟩
      · rw [if_pos hm] at hQ
        exact h84 0 M2 hF2 hj2 e20 e24 (by rw [if_pos rfl]; exact hQ)
      · rw [if_neg hm] at hQ
        exact h84 1 M2 hF2 hj2 e20 e24 (by rw [if_neg (by decide)]; exact hQ)
    · rw [if_pos (by omega)] at hQ
      exact hQ M2 hF2 hj2 ⟨e20, e22, e23, e24⟩
  unfold T_X10_learns
  rw [a1]
  refine ⟨⟨by omega, by omega⟩, inR_mk (by omega) (by omega), ⟨by omega, by omega⟩, fun M1 hM1 => ?_⟩
  have eM1 : M1.2 583 = upI (M.2 583) 662 (t + 1) := by rw [hM1, setA_2, if_pos rfl]
  have e12 : M1.2 583 663 = f := by rw [eM1, upI_ne (by decide)]; exact a2
  have hF1 : Fr (fun k => k = 583) M M1 := by rw [hM1]; exact Fr_setA rfl
  have hj1 : ∀ j, j < 661 → M1.2 583 j = M.2 583 j := fun j q => by rw [eM1, upI_ne (by omega)]
  rw [e12]
  refine ⟨⟨by omega, by omega⟩, fun hok => ?_, fun hok => ?_⟩
  · refine h30 1 (f + 1) M1 (by rw [if_pos hok]) rfl hF1 hj1 ?_ ?_ ?_
    · rw [eM1, upI_ne (by decide)]; exact a0
    · rw [eM1, upI_same]
    · rw [eM1, upI_ne (by decide)]; exact a3
  · refine h30 0 f M1 (by rw [if_neg hok]) (by omega) hF1 hj1 ?_ ?_ ?_
    · rw [eM1, upI_ne (by decide)]; exact a0
    · rw [eM1, upI_same]
    · rw [eM1, upI_ne (by decide)]; exact a3
theorem P_X10_shapes {p low high : Int} {r : Rec} {Q : zMem → Prop} {M : zMem} (hT : tabR M r) (hR : RecOK r) (h : 0 ≤ low ∧ low ≤ high + 1 ∧ high ≤ 255) (hp : 0 ≤ p ∧ p < 10) (h4 : (plain (rI r low (high + 1))).length ≤ 400) (hb : allB (plain (rI r low (high + 1)))) (hs62 : (shape (plain (rI r low (high + 1)))).length ≤ 62) (hQ : ∀ M', Fr (fun k => k = 583 ∨ k = 590 ∨ k = 591 ∨ fRp k) M M' → (∀ j, M'.2 583 j = wB (M.2 583) p (plain (rI r low (high + 1))) j) → Q M') : T_X10_shapes p low high Q M := by
  unfold T_X10_shapes
  apply P_X10_laysPlain hT hR h
  intro M1 hF1 hA1 hl1
  refine ⟨inR_mk (by omega) (by omega), ?_⟩
  obtain ⟨x, hx⟩ : ∃ x, x = plain (rI r low (high + 1)) := ⟨_, rfl⟩
  rw [← hx] at hA1 hl1 h4 hb hs62 hQ
  apply P_X10_shapeOf hA1 hl1 h4 hb
  intro M2 hF2 hA2 hl2
  refine ⟨⟨by omega, by omega⟩, fun M7 hM7 => ⟨inR_mk (by omega) (by omega), ⟨by omega, by omega⟩, fun M8 hM8 => ?_⟩⟩
  have e7 : M7.1 594 = (shape x).length := by rw [hM7, setA_1]; exact hl2
  rw [e7] at hM8
  have e583 : M2.2 583 = M.2 583 := by rw [hF2.2 583 (by unfold fRp; decide)]; exact hF1.2 583 (by decide)
  have eM8 : M8.2 583 = upI (upI (M.2 583) (64 * p) (bf x)) (64 * p + 1) (shape x).length := by rw [hM8, setA_2, if_pos rfl, hM7, setA_2, if_pos rfl, e583]
  have hF8 : Fr (fun k => k = 583 ∨ k = 590 ∨ k = 591 ∨ fRp k) M M8 := Fr_trans (Fr_mono hF1 (fun k h => by rcases h with h | h; exact Or.inr (Or.inl h); exact Or.inr (Or.inr (Or.inl h)))) (Fr_trans (Fr_mono hF2 (fun k h => Or.inr (Or.inr (Or.inr h)))) (Fr_trans (M' := M7) (by rw [hM7]; exact Fr_setA (Or.inl rfl)) (by rw [hM8]; exact Fr_setA (Or.inl rfl))))
  have h593 : AL (M8.2 593) 0 (shape x) := by rw [hM8, setA_2, if_neg (by decide), hM7, setA_2, if_neg (by decide)]; exact hA2
  have h594 : M8.1 594 = (shape x).length := by rw [hM8, setA_1, hM7, setA_1]; exact hl2
  unfold T_X10_shapes_39
  refine zl1_rule (fun i M3 => (0 ≤ i ∧ i ≤ 62) ∧ Fr (fun k => k = 583) M8 M3 ∧ ∀ j, M3.2 583 j = if 64 * p + 2 ≤ j ∧ j < 64 * p + 2 + i then gi (shape x) (j - (64 * p + 2)) else M8.2 583 j) (fun i M3 => (62 - i).toNat) ?_ 0 M8 ⟨⟨by omega, by omega⟩, Fr_refl M8, fun j => by rw [if_neg (by omega)]⟩
  intro X i M3 hI ih
  obtain ⟨i1, i2, i3⟩ := hI
  have e594 : M3.1 594 = (shape x).length := by rw [i2.1 594 (by decide)]; exact h594
  have h79 : ∀ v, v = gi (shape x) i → i < 62 → T_X10_shapes_79 (64 * p) i (64 * p + 2 + i) v X Q M3 := by
    intro v hv hi
    unfold T_X10_shapes_79
    refine ⟨⟨by omega, by omega⟩, fun M4 hM4 => ⟨inR_mk (by omega) (by omega), ih _ _ ⟨⟨by omega, by omega⟩, Fr_trans i2 (by rw [hM4]; exact Fr_setA rfl), fun j => ?_⟩ (by omega)⟩⟩
    rw [hM4, setA_2, if_pos rfl]
    by_cases q : j = 64 * p + 2 + i
    · rw [q, upI_same, if_pos (by omega), hv]
      congr 1
      omega
    · rw [upI_ne q, i3 j]
      by_cases q2 : 64 * p + 2 ≤ j ∧ j < 64 * p + 2 + i
      · rw [if_pos q2, if_pos (by omega)]
      · rw [if_neg q2, if_neg (by omega)]
  rw [e594]
  refine ⟨inR_mk (by omega) (by omega), fun hi => hQ M3 (Fr_trans hF8 (Fr_mono i2 (fun k h => Or.inl h))) (fun j => ?_), fun hi => ⟨inR_mk (by omega) (by omega), inR_mk (by omega) (by omega), fun q => h79 0 (by rw [gi_big (by omega)]) (by omega), fun q => ⟨⟨by omega, by omega⟩, h79 _ ?_ (by omega)⟩⟩⟩
  · rw [i3 j, eM8]
    unfold wB
    by_cases q : 64 * p + 2 ≤ j ∧ j < 64 * p + 2 + i
    · rw [if_pos q, if_pos (by omega), if_neg (by omega), if_neg (by omega)]
    · rw [if_neg q]
      by_cases q1 : j = 64 * p + 1
      · rw [q1, upI_same, if_pos (by omega), if_neg (by omega), if_pos rfl]
      · rw [upI_ne q1]
        by_cases q2 : j = 64 * p
        · rw [q2, upI_same, if_pos (by omega), if_pos rfl]
        · rw [upI_ne q2, if_neg (by omega)]
  · have := h593 i (by omega) (by omega)
    rw [Int.zero_add] at this
    rw [i2.2 593 (by decide)]; exact this
theorem P_X10_goes {i : Int} {Q : zMem → Prop} {M : zMem} (hu : 1 ≤ M.2 583 640 ∧ M.2 583 640 ≤ 10) (hi : 0 ≤ i ∧ i < M.2 583 640) (hQ : ∀ M', Fr (fun k => k = 583) M M' → (∀ j, M'.2 583 j = rmD (M.2 583) i j) → Q M') : T_X10_goes i Q M := by
  have hl : alen 583 = 665 := alen_583
  unfold T_X10_goes
  refine ⟨⟨by omega, by omega⟩, inR_mk (by omega) (by omega), ⟨by omega, by omega⟩, fun M4 hM4 => ⟨inR_mk (by omega) (by omega), inR_mk (by omega) (by omega), ?_⟩⟩
  have eM4 : M4.2 583 = upI (M.2 583) 640 (M.2 583 640 - 1) := by rw [hM4, setA_2, if_pos rfl]
  unfold T_X10_goes_20
  refine zl1_rule (fun k M1 => (641 + 2 * i ≤ k ∧ k ≤ 641 + 2 * (M.2 583 640 - 1)) ∧ Fr (fun k => k = 583) M M1 ∧ ∀ j, M1.2 583 j = if j = 640 then M.2 583 640 - 1 else if 641 + 2 * i ≤ j ∧ j < k then M.2 583 (j + 2) else M.2 583 j) (fun k M1 => (700 - k).toNat) ?_ _ M4 ⟨⟨by omega, by omega⟩, by rw [hM4]; exact Fr_setA rfl, fun j => ?_⟩
  · intro X k M1 hI ih
    obtain ⟨i1, i2, i3⟩ := hI
    apply P_X10_pagesOf (by omega)
    have e640 : M1.2 583 640 = M.2 583 640 - 1 := by rw [i3 640, if_pos rfl]
    rw [e640]
    refine ⟨inR_mk (by omega) (by omega), inR_mk (by omega) (by omega), fun h => hQ M1 i2 (fun j => ?_), fun h => ⟨inR_mk (by omega) (by omega), ⟨by omega, by omega⟩, ⟨by omega, by omega⟩, fun M3 hM3 => ⟨inR_mk (by omega) (by omega), ih _ _ ⟨⟨by omega, by omega⟩, Fr_trans i2 (by rw [hM3]; exact Fr_setA rfl), fun j => ?_⟩ (by omega)⟩⟩⟩
    · have e : k = 641 + 2 * (M.2 583 640 - 1) := by omega
      rw [i3 j, e]; rfl
    · have e2 : M1.2 583 (k + 2) = M.2 583 (k + 2) := by rw [i3 (k + 2), if_neg (by omega), if_neg (by omega)]
      rw [hM3, setA_2, if_pos rfl, e2]
      by_cases q : j = k
      · rw [q, upI_same, if_neg (by omega), if_pos (by omega)]
      · rw [upI_ne q, i3 j]
        by_cases q0 : j = 640
        · rw [if_pos q0, if_pos q0]
        · rw [if_neg q0, if_neg q0]
          by_cases q2 : 641 + 2 * i ≤ j ∧ j < k
          · rw [if_pos q2, if_pos (by omega)]
          · rw [if_neg q2, if_neg (by omega)]
  · rw [eM4]
    by_cases q0 : j = 640
    · rw [q0, upI_same, if_pos rfl]
    · rw [upI_ne q0, if_neg q0, if_neg (by omega)]
theorem P_X10_comes {i num fen : Int} {Q : zMem → Prop} {M : zMem} (hu : 1 ≤ M.2 583 640 ∧ M.2 583 640 ≤ 9) (hi : 0 ≤ i ∧ i ≤ M.2 583 640) (hQ : ∀ M', Fr (fun k => k = 583) M M' → (∀ j, M'.2 583 j = inD (M.2 583) i num fen j) → Q M') : T_X10_comes i num fen Q M := by
  have hl : alen 583 = 665 := alen_583
  unfold T_X10_comes
  apply P_X10_pagesOf (by omega)
  refine ⟨inR_mk (by omega) (by omega), inR_mk (by omega) (by omega), ?_⟩
  unfold T_X10_comes_15
  refine zl1_rule (fun k M1 => (640 + 2 * i ≤ k ∧ k ≤ 640 + 2 * M.2 583 640) ∧ Fr (fun k => k = 583) M M1 ∧ ∀ j, M1.2 583 j = if k + 2 < j ∧ j ≤ 642 + 2 * M.2 583 640 then M.2 583 (j - 2) else M.2 583 j) (fun k M1 => (k - 600).toNat) ?_ _ M ⟨⟨by omega, by omega⟩, Fr_refl M, fun j => by rw [if_neg (by omega)]⟩
  intro X k M1 hI ih
  obtain ⟨i1, i2, i3⟩ := hI
  refine ⟨inR_mk (by omega) (by omega), inR_mk (by omega) (by omega), fun h => ?_, fun h => ⟨inR_mk (by omega) (by omega), ⟨by omega, by omega⟩, ⟨by omega, by omega⟩, fun M5 hM5 => ⟨inR_mk (by omega) (by omega), ih _ _ ⟨⟨by omega, by omega⟩, Fr_trans i2 (by rw [hM5]; exact Fr_setA rfl), fun j => ?_⟩ (by omega)⟩⟩⟩
  · have e640 : M1.2 583 640 = M.2 583 640 := by rw [i3 640, if_neg (by omega)]
    rw [e640]
    refine ⟨⟨by omega, by omega⟩, inR_mk (by omega) (by omega), ⟨by omega, by omega⟩, fun M2 hM2 => ⟨inR_mk (by omega) (by omega), inR_mk (by omega) (by omega), ⟨by omega, by omega⟩, fun M3 hM3 => ⟨inR_mk (by omega) (by omega), inR_mk (by omega) (by omega), ⟨by omega, by omega⟩, fun M4 hM4 => hQ M4 (Fr_trans i2 (Fr_trans (M' := M2) (by rw [hM2]; exact Fr_setA rfl) (Fr_trans (M' := M3) (by rw [hM3]; exact Fr_setA rfl) (by rw [hM4]; exact Fr_setA rfl)))) (fun j => ?_)⟩⟩⟩
    rw [hM4, setA_2, if_pos rfl, hM3, setA_2, if_pos rfl, hM2, setA_2, if_pos rfl]
    unfold inD
    by_cases q0 : j = 642 + 2 * i
    · rw [q0, upI_same, if_neg (by omega), if_neg (by omega), if_pos rfl]
    · rw [upI_ne q0]
      by_cases q1 : j = 641 + 2 * i
      · rw [q1, upI_same, if_neg (by omega), if_pos rfl]
      · rw [upI_ne q1]
        by_cases q2 : j = 640
        · rw [q2, upI_same, if_pos rfl]
        · rw [upI_ne q2, if_neg q2, if_neg q1, if_neg q0, i3 j]
          by_cases q3 : 643 + 2 * i ≤ j ∧ j < 643 + 2 * M.2 583 640
          · rw [if_pos (by omega), if_pos q3]
          · rw [if_neg (by omega), if_neg q3]
  · have e2 : M1.2 583 k = M.2 583 k := by rw [i3 k, if_neg (by omega)]
    rw [hM5, setA_2, if_pos rfl, e2]
    by_cases q : j = k + 2
    · rw [q, upI_same, if_pos (by omega)]
      exact congrArg (M.2 583) (by omega)
    · rw [upI_ne q, i3 j]
      by_cases q3 : k + 2 < j ∧ j ≤ 642 + 2 * M.2 583 640
      · rw [if_pos q3, if_pos (by omega)]
      · rw [if_neg q3, if_neg (by omega)]
