def sg (j : Int) : Int := if j < 661 then j else j + 5
def sgL (us : List (Int × Int)) : List (Int × Int) := us.map (fun w => (sg w.1, w.2))
theorem sgL_snoc (us : List (Int × Int)) (p v : Int) : sgL (us ++ [(p, v)]) = sgL us ++ [(sg p, v)] := by
  unfold sgL
  rw [List.map_append]
  rfl
theorem sg_inj {a b : Int} (h : sg a = sg b) : a = b := by
  unfold sg at h
  split at h <;> split at h <;> omega
theorem apw_sg {f h : Int → Int} {x : Int} : ∀ {ws : List (Int × Int)} {f h : Int → Int}, h (sg x) = f x → apw h (sgL ws) (sg x) = apw f ws x := by
  intro ws
  induction ws with
  | nil => intro f h e; exact e
  | cons w t ih =>
    intro f h e
    show apw (upI h (sg w.1) w.2) (sgL t) (sg x) = apw (upI f w.1 w.2) t x
    apply ih
    unfold upI
    by_cases q : x = w.1
    · rw [if_pos q, if_pos (by rw [q])]
    · rw [if_neg q, if_neg (fun e => q (sg_inj e))]; exact e
theorem apw_sg_mid {h : Int → Int} {x : Int} (hx : 661 ≤ x ∧ x < 666) (ws : List (Int × Int)) : apw h (sgL ws) x = h x := by
  apply apw_out
  intro w hw
  unfold sgL at hw
  rw [List.mem_map] at hw
  obtain ⟨q, _, hq⟩ := hw
  rw [← hq]
  dsimp only
  unfold sg
  split <;> omega
def fWr : Nat → Prop := fun k => k = 582 ∨ (587 ≤ k ∧ k ≤ 589)
def WR (M0 M : zMem) (us : List (Int × Int)) : Prop := Fr fWr M0 M ∧ M.2 582 = apw (M0.2 582) (sgL (us.take (nwr (M0.1 587) us.length))) ∧ M.1 588 = nwr (M0.1 587) us.length ∧ (blw (M0.1 587) us.length → M.1 589 = 1 ∧ M.1 587 = 0) ∧ (¬ blw (M0.1 587) us.length → M.1 589 = 0 ∧ M.1 587 = if M0.1 587 < 0 then M0.1 587 else M0.1 587 - us.length) ∧ inR (M0.1 587)
theorem P_X10_beginsWriting {Q : zMem → Prop} {M : zMem} (hr : inR (M.1 587)) (hQ : ∀ M', WR M M' [] → Q M') : T_X10_beginsWriting Q M := by
  unfold T_X10_beginsWriting
  intro M1 hM1 M2 hM2
  have F2 : Fr fWr M M2 := by rw [hM2, hM1]; exact Fr_trans (Fr_setS (by unfold fWr; omega)) (Fr_setS (by unfold fWr; omega))
  have e : ∀ k, k ≠ 588 → k ≠ 589 → M2.1 k = M.1 k := fun k a b => by rw [hM2, hM1, setS_1, if_neg b, setS_1, if_neg a]
  apply hQ
  refine ⟨F2, by rw [hM2, hM1, List.take_nil]; rfl, ?_, fun h => ?_, fun h => ⟨by rw [hM2]; rfl, ?_⟩, hr⟩
  · have : nwr (M.1 587) ([] : List (Int × Int)).length = 0 := by have := nwr_le (M.1 587) ([] : List (Int × Int)).length; simp at this ⊢; omega
    rw [this, hM2, hM1]; rfl
  · have := h.2
    simp at this
    omega
  · rw [e 587 (by decide) (by decide)]
    split
    · rfl
    · simp
theorem P_X10_writes {p' p v : Int} {us : List (Int × Int)} {Q : zMem → Prop} {M0 M : zMem} (hW : WR M0 M us) (hp : 0 ≤ p ∧ p < 1334) (hpp : p' = sg p) (hl : us.length < 30000) (hQ : ∀ M', WR M0 M' (us ++ [(p, v)]) → Q M') : T_X10_writes p' v Q M := by
  obtain ⟨w1, w2, w3, w4, w5, w6⟩ := hW
  have hlen : (us ++ [(p, v)]).length = us.length + 1 := by rw [List.length_append]; rfl
  have hp' : 0 ≤ p' ∧ p' < 1339 := by rw [hpp]; unfold sg; split <;> omega
  unfold T_X10_writes
  by_cases hb : blw (M0.1 587) us.length
  · obtain ⟨b1, b3⟩ := w4 hb
    refine ⟨fun q => by omega, fun _ => hQ M ?_⟩
    have e : nwr (M0.1 587) (us ++ [(p, v)]).length = nwr (M0.1 587) us.length := by rw [hlen]; unfold nwr; split <;> omega
    refine ⟨w1, ?_, by rw [e]; exact w3, fun _ => ⟨b1, b3⟩, fun h => absurd (by rw [hlen]; omega) h, w6⟩
    rw [e, take_snoc_le (nwr_le _ _)]; exact w2
  · obtain ⟨b1, b3⟩ := w5 hb
    have en := nwr_all hb
    rw [en, List.take_length] at w2
    rw [en] at w3
    refine ⟨fun _ => ⟨fun q => ⟨hp', fun M3 hM3 => ⟨?_, fun M4 hM4 => ?_⟩⟩, fun q M7 hM7 => ?_⟩, fun q => absurd b1 q⟩
    · have : M3.1 588 = us.length := by rw [hM3]; exact w3
      rw [this]
      exact inR_mk (by omega) (by omega)
    · have s4 : M4.2 582 = upI (M.2 582) p' v := by rw [hM4, hM3]; rfl
      have e4 : ∀ k, k ≠ 588 → M4.1 k = M.1 k := fun k hk => by rw [hM4, setS_1, if_neg hk, hM3, setA_1]
      have e588 : M4.1 588 = us.length + 1 := by rw [hM4, hM3]; show M.1 588 + 1 = _; rw [w3]
      have F4 : Fr fWr M0 M4 := by rw [hM4, hM3]; exact Fr_trans (Fr_trans w1 (Fr_setA (by unfold fWr; omega))) (Fr_setS (by unfold fWr; omega))
      rw [e4 587 (by decide)]
      have key : ∀ M6, (M6 = M4 ∧ M.1 587 < 0 ∨ M6 = setS M4 587 (M.1 587 - 1) ∧ 0 < M.1 587) → Q M6 := by
        intro M6 h6
        have hnb : ¬ blw (M0.1 587) (us ++ [(p, v)]).length := by
          rw [hlen]
          intro hh
          rw [b3] at h6
          split at h6
          · omega
          · omega
        have s6 : M6.2 = M4.2 := by rcases h6 with h6 | h6 <;> rw [h6.1] <;> rfl
        have e6 : ∀ k, k ≠ 587 → M6.1 k = M4.1 k := fun k hk => by
          rcases h6 with h6 | h6
          · rw [h6.1]
          · rw [h6.1, setS_1, if_neg hk]
        refine hQ M6 ⟨?_, ?_, ?_, fun h => absurd h hnb, fun _ => ⟨?_, ?_⟩, w6⟩
        · rcases h6 with h6 | h6
          · rw [h6.1]; exact F4
          · rw [h6.1]; exact Fr_trans F4 (Fr_setS (by unfold fWr; omega))
        · rw [nwr_all hnb, List.take_length, sgL_snoc, apw_snoc, ← w2, s6, s4, hpp]
        · rw [nwr_all hnb, hlen, e6 588 (by decide), e588]; omega
        · rw [e6 589 (by decide), e4 589 (by decide)]; exact b1
        · rw [hlen]
          rcases h6 with h6 | h6
          · rw [h6.1, e4 587 (by decide), b3]
            split
            · rfl
            · next hn => rw [b3, if_neg hn] at h6; omega
          · rw [h6.1]
            show M.1 587 - 1 = _
            rw [b3]
            split
            · next hn => rw [b3, if_pos hn] at h6; omega
            · omega
      refine ⟨fun q2 => key M4 (Or.inl ⟨rfl, by omega⟩), fun q2 => ⟨?_, fun M6 hM6 => key M6 (Or.inr ⟨hM6, by omega⟩)⟩⟩
      have h2 := w6.2
      rw [b3]
      split
      · next hn => rw [b3, if_pos hn] at q2; omega
      · exact inR_mk (by omega) (by omega)
    · have hF : M0.1 587 = us.length := by
        rw [b3] at q
        split at q
        · omega
        · omega
      have hbl : blw (M0.1 587) (us ++ [(p, v)]).length := by rw [hlen]; omega
      have e : nwr (M0.1 587) (us ++ [(p, v)]).length = us.length := by have := nwr_blw hbl; omega
      refine hQ M7 ⟨?_, ?_, ?_, fun _ => ⟨by rw [hM7]; rfl, by rw [hM7]; exact q⟩, fun h => absurd hbl h, w6⟩
      · rw [hM7]
        exact Fr_trans w1 (Fr_setS (by unfold fWr; omega))
      · rw [e, take_snoc_le (Nat.le_refl _), List.take_length, ← w2, hM7]; rfl
      · rw [e, ← w3, hM7]; rfl
