-- worlds up to order
theorem vaP_mem {D : va_G} {cl : List vw_C} {ws : va_W} {H : Heap} : va_P D cl ws H ↔ ∀ q ∈ ws, va_at D cl q H := by
  constructor
  · intro h q hq
    obtain ⟨k, hk⟩ := List.getElem?_of_mem hq
    exact h k q hk
  · intro h k q hk
    exact h q (List.mem_of_getElem? hk)
theorem vaD_nd {A : Nat → Prop} {ws : va_W} : va_D A ws ↔ (ws.map (fun q => q.1)).Nodup ∧ ∀ q ∈ ws, A q.1 := by
  constructor
  · intro h
    refine ⟨?_, fun q hq => ?_⟩
    · unfold List.Nodup
      rw [List.pairwise_iff_getElem]
      intro i j hi hj hij he
      rw [List.length_map] at hi hj
      rw [List.getElem_map, List.getElem_map] at he
      have := h.1 i j ws[i] ws[j] (List.getElem?_eq_getElem hi) (List.getElem?_eq_getElem hj) he
      omega
    · obtain ⟨k, hk⟩ := List.getElem?_of_mem hq
      exact h.2 k q hk
  · rintro ⟨h1, h2⟩
    refine ⟨fun i j p q hi hj he => ?_, fun k q hk => h2 q (List.mem_of_getElem? hk)⟩
    have a1 : (ws.map (fun q => q.1))[i]? = some p.1 := by rw [List.getElem?_map, hi]; rfl
    have a2 : (ws.map (fun q => q.1))[j]? = some p.1 := by rw [List.getElem?_map, hj, he]; rfl
    exact (List.getElem?_inj (List.getElem?_eq_some_iff.mp a1).1 h1).mp (a1.trans a2.symm)
theorem vaP_perm {D : va_G} {cl : List vw_C} {w1 w2 : va_W} {H : Heap} (h : w1.Perm w2) (hp : va_P D cl w1 H) : va_P D cl w2 H := by
  rw [vaP_mem] at hp ⊢
  exact fun q hq => hp q (h.mem_iff.mpr hq)
theorem vaD_perm {A : Nat → Prop} {w1 w2 : va_W} (h : w1.Perm w2) (hp : va_D A w1) : va_D A w2 := by
  rw [vaD_nd] at hp ⊢
  exact ⟨(h.map _).nodup_iff.mp hp.1, fun q hq => hp.2 q (h.mem_iff.mpr hq)⟩
-- an int array's cell sees only what lies below its length
theorem vp_cong {cA : ClassId} {n : Nat} {f g : Nat → Int32} (h : ∀ j, j < n → f j = g j) : vp_cell cA (n, .inl f) = vp_cell cA (n, .inl g) := by
  rw [vp_cell_i, vp_cell_i]
  unfold arrV
  congr 1
  exact congrArg Array.ofFn (funext fun j => congrArg Value.int (h j.1 j.2))
theorem vaP_cong {D : va_G} {cl : List vw_C} {ws : va_W} {H : Heap} {k a n : Nat} {cA : ClassId} {f g : Nat → Int32} (hp : va_P D cl (ws.set k (a, .inl (cA, n, .inl f))) H) (h : ∀ j, j < n → f j = g j) : va_P D cl (ws.set k (a, .inl (cA, n, .inl g))) H := by
  intro j q hj
  rw [List.getElem?_set] at hj
  by_cases hk : k = j
  · rw [if_pos hk] at hj
    split at hj
    · rename_i hl
      cases hj
      have := hp j (a, .inl (cA, n, .inl f)) (by rw [List.getElem?_set, if_pos hk, if_pos hl])
      unfold va_at at this ⊢
      dsimp only at this ⊢
      rw [← vp_cong h]
      exact this
    · cases hj
  · rw [if_neg hk] at hj
    exact hp j q (by rw [List.getElem?_set, if_neg hk]; exact hj)
-- one moment's cells within the world
def zoth (i : Nat) (M M' : zMem) : Prop := ∀ k, k < 64 * (16 + i) ∨ 64 * (16 + i) + 64 ≤ k → M'.1 k = M.1 k ∧ M'.2 k = M.2 k
theorem zr16 : ∀ i, i < 16 → List.range 16 = List.range i ++ i :: List.range' (i + 1) (15 - i) := by decide
theorem flat_congr {α β : Type} {F F' : α → List β} : ∀ {l : List α}, (∀ x ∈ l, F x = F' x) → l.flatMap F = l.flatMap F'
  | [], _ => rfl
  | x :: t, h => by rw [List.flatMap_cons, List.flatMap_cons, h x List.mem_cons_self, flat_congr (fun y hy => h y (List.mem_cons_of_mem _ hy))]
theorem zobjs_cong {G : zG} {M M' : zMem} (h : ∀ k, k < 640 → M'.1 k = M.1 k) : zobjs G M' = zobjs G M := by
  have e1 : ∀ N : zMem, zobjs G N = zobjs G (fun k => if k < 640 then N.1 k else 0, N.2) := fun N => rfl
  have e2 : (fun k => if k < 640 then M'.1 k else 0) = (fun k => if k < 640 then M.1 k else 0) := funext fun k => by
    by_cases hk : k < 640
    · rw [if_pos hk, if_pos hk, h k hk]
    · rw [if_neg hk, if_neg hk]
  rw [e1 M, e1 M', e2]
  rfl
theorem zarrs_cong {G : zG} {M M' : zMem} (h : ∀ k, k < 640 → M'.2 k = M.2 k) : zarrs G M' = zarrs G M := by
  unfold zarrs
  refine List.map_congr_left (fun q hq => ?_)
  rw [h q.1 (zlen_small q hq).1]
theorem zmomC_cong {G : zG} {M M' : zMem} {f f' : Nat → Option (Nat × Nat × Nat)} {j : Nat} (hf : f' j = f j) (h1 : M'.1 (64 * (16 + j)) = M.1 (64 * (16 + j))) (h2 : M'.1 (64 * (16 + j) + 1) = M.1 (64 * (16 + j) + 1)) (h3 : M'.2 (64 * (16 + j) + 2) = M.2 (64 * (16 + j) + 2)) (h4 : M'.2 (64 * (16 + j) + 3) = M.2 (64 * (16 + j) + 3)) : zmomC G M' f' j = zmomC G M f j := by
  unfold zmomC
  rw [hf, h1, h2, h3, h4]
theorem zmom_upd (G : zG) (M : zMem) (f : Nat → Option (Nat × Nat × Nat)) {i : Nat} (hi : i < 16) : ∃ A B : va_W, A.length = 58 ∧ ∃ A' : va_W, ∀ (M' : zMem) (f' : Nat → Option (Nat × Nat × Nat)), zoth i M M' → (∀ j, j ≠ i → f' j = f j) → zcl G M' (zmomX G M' f') = A ++ ((zad G 513, .inl (G.2.2.1, 16, .inr (.inr (.inr (.inr (fun j => (f' j).map (fun q => q.1))))))) :: (A' ++ (zmomC G M' f' i ++ B))) := by
  refine ⟨zobjs G M ++ zarrs G M, (List.range' (i + 1) (15 - i)).flatMap (zmomC G M f), by rw [List.length_append, zobjs_len]; unfold zarrs; rw [List.length_map]; rfl, (List.range i).flatMap (zmomC G M f), ?_⟩
  intro M' f' ho hf
  unfold zcl zmomX
  rw [zobjs_cong (M := M) (fun k hk => (ho k (Or.inl (by omega))).1), zarrs_cong (M := M) (fun k hk => (ho k (Or.inl (by omega))).2), zr16 i hi, List.flatMap_append, List.flatMap_cons]
  have key : ∀ j, j ≠ i → zmomC G M' f' j = zmomC G M f j := fun j hj => zmomC_cong (hf j hj) (ho _ (by omega)).1 (ho _ (by omega)).1 (ho _ (by omega)).2 (ho _ (by omega)).2
  rw [flat_congr (F := zmomC G M' f') (F' := zmomC G M f) (l := List.range i) (fun j hj => key j (by have := List.mem_range.mp hj; omega)), flat_congr (F := zmomC G M' f') (F' := zmomC G M f) (l := List.range' (i + 1) (15 - i)) (fun j hj => key j (by have := List.mem_range'_1.mp hj; omega)), List.append_assoc]
