-- bytes that are written one by one, as many as the fuse lets
def apw (f : Int → Int) (ws : List (Int × Int)) : Int → Int := ws.foldl (fun f w => upI f w.1 w.2) f
theorem apw_snoc (f : Int → Int) (ws : List (Int × Int)) (p v : Int) : apw f (ws ++ [(p, v)]) = upI (apw f ws) p v := by
  unfold apw
  rw [List.foldl_append]
  rfl
theorem apw_app (f : Int → Int) (a b : List (Int × Int)) : apw f (a ++ b) = apw (apw f a) b := by
  unfold apw
  rw [List.foldl_append]
theorem apw_out {f : Int → Int} {x : Int} : ∀ {ws : List (Int × Int)}, (∀ w ∈ ws, w.1 ≠ x) → apw f ws x = f x := by
  intro ws
  induction ws generalizing f with
  | nil => intro _; rfl
  | cons w t ih =>
    intro h
    show apw (upI f w.1 w.2) t x = f x
    rw [ih (fun q hq => h q (List.mem_cons_of_mem _ hq))]
    exact upI_ne (fun e => h w List.mem_cons_self e.symm)
theorem apw_in {f : Int → Int} {x v : Int} : ∀ {ws : List (Int × Int)}, (∀ w ∈ ws, w.1 = x → w.2 = v) → (∃ w ∈ ws, w.1 = x) → apw f ws x = v := by
  intro ws
  induction ws generalizing f with
  | nil => rintro _ ⟨w, hw, _⟩; cases hw
  | cons w t ih =>
    intro h ⟨q, hq, hqx⟩
    show apw (upI f w.1 w.2) t x = v
    by_cases ht : ∃ w ∈ t, w.1 = x
    · exact ih (fun q hq => h q (List.mem_cons_of_mem _ hq)) ht
    · rw [apw_out (fun q hq e => ht ⟨q, hq, e⟩)]
      rw [List.mem_cons] at hq
      rcases hq with hq | hq
      · rw [← hq, hqx]
        rw [upI_same]
        exact h q (by rw [hq]; exact List.mem_cons_self) hqx
      · exact absurd ⟨q, hq, hqx⟩ ht
theorem apw_or {f g : Int → Int} {x : Int} {ws : List (Int × Int)} (h : ∀ w ∈ ws, w.1 = x → w.2 = g x) : apw f ws x = f x ∨ apw f ws x = g x := by
  by_cases hx : ∃ w ∈ ws, w.1 = x
  · exact Or.inr (apw_in h hx)
  · exact Or.inl (apw_out (fun w hw e => hx ⟨w, hw, e⟩))
def nwr (F : Int) (n : Nat) : Nat := if F < 0 then n else min F.toNat n
theorem nwr_le (F : Int) (n : Nat) : nwr F n ≤ n := by unfold nwr; split <;> omega
abbrev blw (F : Int) (n : Nat) : Prop := 0 ≤ F ∧ F < (n : Int)
theorem nwr_all {F : Int} {n : Nat} (h : ¬ blw F n) : nwr F n = n := by unfold nwr; split <;> omega
theorem nwr_blw {F : Int} {n : Nat} (h : blw F n) : (nwr F n : Int) = F := by unfold nwr; split <;> omega
def fW : Nat → Prop := fun k => 64 ≤ k ∧ k ≤ 68
def WC (M0 M : zMem) (us : List (Int × Int)) : Prop := Fr fW M0 M ∧ M.2 64 = apw (M0.2 64) (us.take (nwr (M0.1 65) us.length)) ∧ M.1 68 = nwr (M0.1 65) us.length ∧ (blw (M0.1 65) us.length → M.1 67 = 1 ∧ M.1 66 = 1 ∧ M.1 65 = -1) ∧ (¬ blw (M0.1 65) us.length → M.1 67 = 0 ∧ M.1 66 = M0.1 66 ∧ M.1 65 = if M0.1 65 < 0 then M0.1 65 else M0.1 65 - us.length) ∧ inR (M0.1 65)
theorem P_X0_startAct {Q : zMem → Prop} {M : zMem} (hr : inR (M.1 65)) (hQ : ∀ M', WC M M' [] → Q M') : T_X0_startAct Q M := by
  unfold T_X0_startAct
  intro M1 hM1 M2 hM2
  have F2 : Fr fW M M2 := by rw [hM2, hM1]; exact Fr_trans (Fr_setS (by unfold fW; omega)) (Fr_setS (by unfold fW; omega))
  have e : ∀ k, k ≠ 67 → k ≠ 68 → M2.1 k = M.1 k := fun k a b => by rw [hM2, hM1, setS_1, if_neg b, setS_1, if_neg a]
  apply hQ
  refine ⟨F2, by rw [hM2, hM1, List.take_nil]; rfl, ?_, fun h => ?_, fun h => ⟨by rw [hM2, hM1]; rfl, e 66 (by decide) (by decide), ?_⟩, hr⟩
  · have : nwr (M.1 65) ([] : List (Int × Int)).length = 0 := by have := nwr_le (M.1 65) ([] : List (Int × Int)).length; simp at this ⊢; omega
    rw [this, hM2]; rfl
  · have := h.2
    simp at this
    omega
  · rw [e 65 (by decide) (by decide)]
    split
    · rfl
    · simp
theorem take_snoc_le {α : Type} {us : List α} {x : α} {n : Nat} (h : n ≤ us.length) : (us ++ [x]).take n = us.take n := List.take_append_of_le_length h
theorem P_X0_write {p v : Int} {us : List (Int × Int)} {Q : zMem → Prop} {M0 M : zMem} (hW : WC M0 M us) (hp : 0 ≤ p ∧ p < 1334) (hl : us.length < 30000) (hQ : ∀ M', WC M0 M' (us ++ [(p, v)]) → Q M') : T_X0_write p v Q M := by
  obtain ⟨w1, w2, w3, w4, w5, w6⟩ := hW
  have hlen : (us ++ [(p, v)]).length = us.length + 1 := by rw [List.length_append]; rfl
  unfold T_X0_write
  by_cases hb : blw (M0.1 65) us.length
  · obtain ⟨b1, b2, b3⟩ := w4 hb
    refine ⟨fun _ => hQ M ?_, fun q => by omega⟩
    have e : nwr (M0.1 65) (us ++ [(p, v)]).length = nwr (M0.1 65) us.length := by rw [hlen]; unfold nwr; split <;> omega
    refine ⟨w1, ?_, by rw [e]; exact w3, fun _ => ⟨b1, b2, b3⟩, fun h => absurd (by rw [hlen]; omega) h, w6⟩
    rw [e, take_snoc_le (nwr_le _ _)]; exact w2
  · obtain ⟨b1, b2, b3⟩ := w5 hb
    have en := nwr_all hb
    rw [en, List.take_length] at w2
    rw [en] at w3
    refine ⟨fun q => absurd b1 q, fun _ => ⟨fun q => by omega, fun _ => ⟨fun _ => ⟨fun q => ?_, fun q M9 hM9 M10 hM10 M11 hM11 => ?_⟩, fun q => by omega⟩⟩⟩
    · have key : ∀ M8, (M8 = M ∧ M.1 65 < 0 ∨ M8 = setS M 65 (M.1 65 - 1) ∧ 0 < M.1 65) → T_X0_write_59 p v Q M8 := by
        intro M8 h8
        have F8 : Fr fW M0 M8 := by
          rcases h8 with h8 | h8
          · rw [h8.1]; exact w1
          · rw [h8.1]; exact Fr_trans w1 (Fr_setS (by unfold fW; omega))
        have s8 : M8.2 = M.2 := by rcases h8 with h8 | h8 <;> rw [h8.1] <;> rfl
        have e8 : ∀ k, k ≠ 65 → M8.1 k = M.1 k := fun k hk => by
          rcases h8 with h8 | h8
          · rw [h8.1]
          · rw [h8.1, setS_1, if_neg hk]
        have e65 : M8.1 65 = if M0.1 65 < 0 then M0.1 65 else M0.1 65 - (us.length + 1 : Nat) := by
          rcases h8 with h8 | h8
          · rw [h8.1, b3]
            split
            · rfl
            · next hn => rw [b3, if_neg hn] at h8; omega
          · rw [h8.1]
            show M.1 65 - 1 = _
            rw [b3]
            split
            · next hn => rw [b3, if_pos hn] at h8; omega
            · omega
        have hnb : ¬ blw (M0.1 65) (us ++ [(p, v)]).length := by
          rw [hlen]
          intro hh
          rw [b3] at h8
          split at h8
          · omega
          · omega
        unfold T_X0_write_59
        refine ⟨hp, fun M1 hM1 => ⟨?_, fun M2 hM2 => hQ M2 ?_⟩⟩
        · have : M1.1 68 = us.length := by rw [hM1]; show M8.1 68 = _; rw [e8 68 (by decide)]; exact w3
          rw [this]
          exact inR_mk (by omega) (by omega)
        · have s2 : ∀ k, k ≠ 68 → M2.1 k = M8.1 k := fun k hk => by rw [hM2, setS_1, if_neg hk, hM1, setA_1]
          refine ⟨?_, ?_, ?_, fun h => absurd h hnb, fun _ => ⟨?_, ?_, ?_⟩, w6⟩
          · rw [hM2, hM1]; exact Fr_trans (Fr_trans F8 (Fr_setA (by unfold fW; omega))) (Fr_setS (by unfold fW; omega))
          · rw [nwr_all hnb, List.take_length, apw_snoc, ← w2]
            rw [hM2, setS_2, hM1, setA_2, if_pos rfl, s8]
          · rw [nwr_all hnb, hlen, hM2]
            show M1.1 68 + 1 = _
            rw [hM1]
            show M8.1 68 + 1 = _
            rw [e8 68 (by decide), w3]
            omega
          · rw [s2 67 (by decide), e8 67 (by decide)]; exact b1
          · rw [s2 66 (by decide), e8 66 (by decide)]; exact b2
          · rw [s2 65 (by decide), e65, hlen]
      refine ⟨fun q2 => key M (Or.inl ⟨rfl, by omega⟩), fun q2 => ⟨?_, fun M8 hM8 => key M8 (Or.inr ⟨hM8, by omega⟩)⟩⟩
      have h2 := w6.2
      rw [b3]
      split
      · next hn => rw [b3, if_pos hn] at q2; omega
      · exact inR_mk (by omega) (by omega)
    · have hF : M0.1 65 = us.length := by
        rw [b3] at q
        split at q
        · omega
        · omega
      have hbl : blw (M0.1 65) (us ++ [(p, v)]).length := by rw [hlen]; omega
      have e : nwr (M0.1 65) (us ++ [(p, v)]).length = us.length := by have := nwr_blw hbl; omega
      refine hQ M11 ⟨?_, ?_, ?_, fun _ => ⟨by rw [hM11, hM10, hM9]; rfl, by rw [hM11, hM10]; rfl, by rw [hM11]; rfl⟩, fun h => absurd hbl h, w6⟩
      · rw [hM11, hM10, hM9]
        exact Fr_trans (Fr_trans (Fr_trans w1 (Fr_setS (by unfold fW; omega))) (Fr_setS (by unfold fW; omega))) (Fr_setS (by unfold fW; omega))
      · rw [e, take_snoc_le (Nat.le_refl _), List.take_length, ← w2, hM11, hM10, hM9]; rfl
      · rw [e, ← w3, hM11, hM10, hM9]; rfl
