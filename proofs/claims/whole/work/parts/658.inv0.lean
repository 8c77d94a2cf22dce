theorem up640 (j : Int) : upI (fun _ => 0) 640 1 j = if j = 640 then 1 else 0 := rfl
theorem WFz_0 : WFz (upI (fun _ => 0) 640 1) := by
  have f0 : ∀ j, j ≠ 640 → upI (fun _ => 0) 640 1 j = 0 := fun j h => if_neg h
  have f1 : upI (fun _ => 0) 640 1 640 = 1 := rfl
  refine ⟨⟨by rw [f1]; decide, fun i a b => ?_, fun i j a b c => ?_, rfl, fun i j a b c => ?_, fun i a b => ?_⟩, fun j a b => ?_, fun i a b => ?_⟩
  · rw [f0 _ (by omega)]; decide
  · rw [f1] at c; omega
  · rw [f1] at c; omega
  · rw [f0 _ (by omega)]; decide
  · rw [up640]; split <;> omega
  · rw [f1] at b
    have hi : i = 0 := by omega
    subst hi
    refine ⟨[], [], [], ⟨⟨⟨⟨by decide, by decide⟩, rfl, fun j a b => ?_, by decide, fun e he => (by cases he), fun _ => rfl⟩, ⟨by decide, by decide⟩, fun v hv => (by cases hv), ⟨[], by unfold unp; simp, rfl⟩, fun p hp => (by cases hp), trivial⟩, fun p hp => (by cases hp), fun e he => (by cases he), ?_⟩, fun j a b => ?_⟩
    · exfalso; simp at b; omega
    · have e9 : rI (pR [] []) 0 256 = [] := rI_empty (fun j _ _ => rfl)
      rw [e9]; decide
    · rw [f0 (641 + 2 * 0) (by decide)]
      exact f0 _ (by omega)
theorem Inv_0 : Inv 0 zM0 := by
  have a0 : zM0.2 64 = upI (fun _ => 0) 640 1 := rfl
  have a1 : zM0.2 582 = upI (fun _ => 0) 640 1 := rfl
  have a2 : zM0.2 0 = upI (upI (upI (upI (upI (fun _ => 0) 0 4) 1 8) 2 25) 3 8) 4 2 := rfl
  have a3 : zM0.2 579 = zM0.2 0 := rfl
  refine ⟨zM0.2 0, [], (0, fun _ => 0), -1, (upI (fun _ => 0) 640 1, (0, 0, 0, 0), 0), (-1, 0), ([], 0), [], ⟨fun _ _ _ => rfl, ⟨rfl, fun j a b => ?_⟩, ⟨rfl, fun _ _ _ => rfl⟩, rfl, ⟨fun _ _ _ => rfl, ⟨rfl, rfl, rfl, rfl⟩, rfl⟩, ⟨rfl, rfl⟩, ⟨⟨rfl, fun j a b => ?_⟩, rfl⟩, ⟨rfl, by decide, ⟨by decide, by decide⟩, fun i m h => ?_⟩⟩, ⟨⟨fun _ _ _ => rfl, fun j a b => ?_⟩, ⟨rfl, fun j a b => ?_⟩, ⟨rfl, fun _ _ _ => rfl⟩, rfl, ⟨fun j a b => ?_, ⟨rfl, rfl, rfl, rfl⟩, rfl⟩, ⟨rfl, rfl⟩, ⟨⟨rfl, fun j a b => ?_⟩, rfl⟩, ⟨rfl, by decide, ⟨by decide, by decide⟩, fun i m h => ?_⟩⟩, ⟨?_, ⟨by decide, fun v hv => by cases hv⟩, fun j a b => ⟨Int.le_refl 0, Int.le_refl 0⟩, ⟨Or.inl ⟨rfl, rfl, WFz_0⟩, ?_⟩, ⟨⟨by decide, by decide⟩, by decide⟩, ⟨?_, by decide, by decide⟩, fun m hm => by cases hm⟩⟩
  · exfalso; simp at b; omega
  · exfalso; simp at b; omega
  · simp at h
  · rcases (show j = 0 ∨ j = 1 ∨ j = 2 ∨ j = 3 ∨ j = 4 by omega) with rfl | rfl | rfl | rfl | rfl <;> exact ⟨rfl, rfl⟩
  · exfalso; simp at b; omega
  · unfold rv
    rw [a1, up640]
    show _ = upI (fun _ => 0) 640 1 j
    rw [up640]
    unfold sg
    by_cases h : j < 661
    · rw [if_pos h]
    · rw [if_neg h, if_neg (by omega), if_neg (by omega)]
  · exfalso; simp at b; omega
  · simp at h
  · rw [a2]; unfold trmOK; decide
  · unfold lrnOK; decide
  · rw [a2]; decide
theorem inR_up {f : Int → Int} {i v : Int} (h : ∀ j, inR (f j)) (hv : inR v) : ∀ j, inR (upI f i v j) := fun j => by unfold upI; split; exact hv; exact h j
theorem inR_0 : ∀ j : Int, inR ((fun _ => 0 : Int → Int) j) := fun _ => zr_inR0
theorem zRM_0 : zRM zM0 := by
  refine ⟨fun k => ?_, fun k i => ?_⟩
  · unfold zM0
    dsimp only
    repeat' split
    all_goals exact ⟨by decide, by decide⟩
  · unfold zM0
    dsimp only
    repeat' split
    all_goals first | exact inR_0 i | exact inR_up inR_0 ⟨by decide, by decide⟩ i | exact inR_up (inR_up (inR_up (inR_up (inR_up inR_0 ⟨by decide, by decide⟩) ⟨by decide, by decide⟩) ⟨by decide, by decide⟩) ⟨by decide, by decide⟩) ⟨by decide, by decide⟩ i
