def zlenT : List (Nat × Nat) := [(0, 5), (1, 4), (2, 400), (4, 10), (5, 7), (64, 1334), (128, 661), (129, 4), (130, 10), (133, 5), (134, 16), (193, 400), (194, 256), (195, 2048), (256, 408), (257, 400), (260, 400), (261, 400), (262, 256), (321, 400), (322, 256), (323, 2048), (384, 408), (385, 400), (388, 400), (389, 400), (390, 256), (450, 4), (578, 8), (579, 5), (580, 5), (581, 5), (582, 1339), (583, 665), (584, 400), (590, 2600), (592, 2600), (593, 2700), (596, 256), (597, 2048), (598, 260), (599, 260), (601, 260), (602, 260), (607, 21424), (608, 16), (611, 4), (614, 10)]
def alen (id : Nat) : Int := match zlenT.lookup id with
  | some n => (n : Int)
  | none => 0
theorem alen_0 : alen 0 = 5 := by decide +kernel
theorem alen_1 : alen 1 = 4 := by decide +kernel
theorem alen_2 : alen 2 = 400 := by decide +kernel
theorem alen_4 : alen 4 = 10 := by decide +kernel
theorem alen_5 : alen 5 = 7 := by decide +kernel
theorem alen_64 : alen 64 = 1334 := by decide +kernel
theorem alen_128 : alen 128 = 661 := by decide +kernel
theorem alen_129 : alen 129 = 4 := by decide +kernel
theorem alen_130 : alen 130 = 10 := by decide +kernel
theorem alen_133 : alen 133 = 5 := by decide +kernel
theorem alen_134 : alen 134 = 16 := by decide +kernel
theorem alen_193 : alen 193 = 400 := by decide +kernel
theorem alen_194 : alen 194 = 256 := by decide +kernel
theorem alen_195 : alen 195 = 2048 := by decide +kernel
theorem alen_256 : alen 256 = 408 := by decide +kernel
theorem alen_257 : alen 257 = 400 := by decide +kernel
theorem alen_260 : alen 260 = 400 := by decide +kernel
theorem alen_261 : alen 261 = 400 := by decide +kernel
theorem alen_262 : alen 262 = 256 := by decide +kernel
theorem alen_321 : alen 321 = 400 := by decide +kernel
theorem alen_322 : alen 322 = 256 := by decide +kernel
theorem alen_323 : alen 323 = 2048 := by decide +kernel
theorem alen_384 : alen 384 = 408 := by decide +kernel
theorem alen_385 : alen 385 = 400 := by decide +kernel
theorem alen_388 : alen 388 = 400 := by decide +kernel
theorem alen_389 : alen 389 = 400 := by decide +kernel
theorem alen_390 : alen 390 = 256 := by decide +kernel
theorem alen_450 : alen 450 = 4 := by decide +kernel
theorem alen_578 : alen 578 = 8 := by decide +kernel
theorem alen_579 : alen 579 = 5 := by decide +kernel
theorem alen_580 : alen 580 = 5 := by decide +kernel
theorem alen_581 : alen 581 = 5 := by decide +kernel
theorem alen_582 : alen 582 = 1339 := by decide +kernel
theorem alen_583 : alen 583 = 665 := by decide +kernel
theorem alen_584 : alen 584 = 400 := by decide +kernel
theorem alen_590 : alen 590 = 2600 := by decide +kernel
theorem alen_592 : alen 592 = 2600 := by decide +kernel
theorem alen_593 : alen 593 = 2700 := by decide +kernel
theorem alen_596 : alen 596 = 256 := by decide +kernel
theorem alen_597 : alen 597 = 2048 := by decide +kernel
theorem alen_598 : alen 598 = 260 := by decide +kernel
theorem alen_599 : alen 599 = 260 := by decide +kernel
theorem alen_601 : alen 601 = 260 := by decide +kernel
theorem alen_602 : alen 602 = 260 := by decide +kernel
theorem alen_607 : alen 607 = 21424 := by decide +kernel
theorem alen_608 : alen 608 = 16 := by decide +kernel
theorem alen_611 : alen 611 = 4 := by decide +kernel
theorem alen_614 : alen 614 = 10 := by decide +kernel
abbrev zo0 (G : zG) (M : zMem) : Nat × va_E := (zad G 63, .inr (7, [.ref (zad G 0), .ref (zad G 1), .ref (zad G 2), .int (Int32.ofInt (M.1 3)), .ref (zad G 4), .ref (zad G 5), .int (Int32.ofInt (M.1 6)), .int (Int32.ofInt (M.1 7)), .int (Int32.ofInt (M.1 8)), .ref (zad G 127), .ref (zad G 191), .ref (zad G 383), .ref (zad G 511), .ref (zad G 575)]))
abbrev zo1 (G : zG) (M : zMem) : Nat × va_E := (zad G 127, .inr (0, [.ref (zad G 64), .int (Int32.ofInt (M.1 65)), .int (Int32.ofInt (M.1 66)), .int (Int32.ofInt (M.1 67)), .int (Int32.ofInt (M.1 68))]))
abbrev zo2 (G : zG) (M : zMem) : Nat × va_E := (zad G 191, .inr (1, [.ref (zad G 128), .ref (zad G 129), .ref (zad G 130), .int (Int32.ofInt (M.1 131)), .ref (zad G 255), .ref (zad G 133), .ref (zad G 134), .int (Int32.ofInt (M.1 135))]))
abbrev zo3 (G : zG) (M : zMem) : Nat × va_E := (zad G 255, .inr (6, [.ref (zad G 319), .ref (zad G 193), .ref (zad G 194), .ref (zad G 195)]))
abbrev zo4 (G : zG) (M : zMem) : Nat × va_E := (zad G 319, .inr (4, [.ref (zad G 256), .ref (zad G 257), .int (Int32.ofInt (M.1 258)), .int (Int32.ofInt (M.1 259)), .ref (zad G 260), .ref (zad G 261), .ref (zad G 262), .int (Int32.ofInt (M.1 263))]))
abbrev zo5 (G : zG) (M : zMem) : Nat × va_E := (zad G 383, .inr (6, [.ref (zad G 447), .ref (zad G 321), .ref (zad G 322), .ref (zad G 323)]))
abbrev zo6 (G : zG) (M : zMem) : Nat × va_E := (zad G 447, .inr (4, [.ref (zad G 384), .ref (zad G 385), .int (Int32.ofInt (M.1 386)), .int (Int32.ofInt (M.1 387)), .ref (zad G 388), .ref (zad G 389), .ref (zad G 390), .int (Int32.ofInt (M.1 391))]))
abbrev zo7 (G : zG) (M : zMem) : Nat × va_E := (zad G 511, .inr (2, [.int (Int32.ofInt (M.1 448)), .int (Int32.ofInt (M.1 449)), .ref (zad G 450)]))
abbrev zo8 (G : zG) (M : zMem) : Nat × va_E := (zad G 575, .inr (5, [.int (Int32.ofInt (M.1 512)), .ref (zad G 513), .int (Int32.ofInt (M.1 514))]))
abbrev zo9 (G : zG) (M : zMem) : Nat × va_E := (zad G 639, .inr (8, [.int (Int32.ofInt (M.1 576)), .int (Int32.ofInt (M.1 577)), .ref (zad G 578), .ref (zad G 579), .ref (zad G 580), .ref (zad G 581), .ref (zad G 582), .ref (zad G 583), .ref (zad G 584), .int (Int32.ofInt (M.1 585)), .int (Int32.ofInt (M.1 586)), .int (Int32.ofInt (M.1 587)), .int (Int32.ofInt (M.1 588)), .int (Int32.ofInt (M.1 589)), .ref (zad G 590), .int (Int32.ofInt (M.1 591)), .ref (zad G 592), .ref (zad G 593), .int (Int32.ofInt (M.1 594)), .int (Int32.ofInt (M.1 595)), .ref (zad G 596), .ref (zad G 597), .ref (zad G 598), .ref (zad G 599), .int (Int32.ofInt (M.1 600)), .ref (zad G 601), .ref (zad G 602), .int (Int32.ofInt (M.1 603)), .int (Int32.ofInt (M.1 604)), .int (Int32.ofInt (M.1 605)), .int (Int32.ofInt (M.1 606)), .ref (zad G 607), .ref (zad G 608), .int (Int32.ofInt (M.1 609)), .int (Int32.ofInt (M.1 610)), .ref (zad G 611), .int (Int32.ofInt (M.1 612)), .int (Int32.ofInt (M.1 613)), .ref (zad G 614), .int (Int32.ofInt (M.1 615))]))
def zobjs (G : zG) (M : zMem) : va_W := [zo0 G M, zo1 G M, zo2 G M, zo3 G M, zo4 G M, zo5 G M, zo6 G M, zo7 G M, zo8 G M, zo9 G M]
abbrev zarrE (G : zG) (n : Nat) (f : Int → Int) : va_E := .inl (G.2.1, n, .inl (fun j : Nat => Int32.ofInt (f (j : Int))))
def zarrs (G : zG) (M : zMem) : va_W := zlenT.map (fun q => (zad G q.1, zarrE G q.2 (M.2 q.1)))
def zcl (G : zG) (M : zMem) (X : va_W) : va_W := zobjs G M ++ (zarrs G M ++ X)
-- the moments: made one by one; number i is the object 16 + i, its scalar 5 says whether it is there (1)
abbrev zmomC (G : zG) (M : zMem) (f : Nat → Option (Nat × Nat × Nat)) (i : Nat) : va_W := match f i with
  | none => []
  | some (a, b, d) => [(a, .inr (3, [.int (Int32.ofInt (M.1 (64 * (16 + i)))), .int (Int32.ofInt (M.1 (64 * (16 + i) + 1))), .ref b, .ref d])), (b, zarrE G 1334 (M.2 (64 * (16 + i) + 2))), (d, zarrE G 4 (M.2 (64 * (16 + i) + 3)))]
abbrev zmomX (G : zG) (M : zMem) (f : Nat → Option (Nat × Nat × Nat)) : va_W := (zad G 513, .inl (G.2.2.1, 16, .inr (.inr (.inr (.inr (fun i => (f i).map (fun q => q.1))))))) :: (List.range 16).flatMap (zmomC G M f)
def zMo (G : zG) (M : zMem) (X : va_W) : Prop := ∃ f : Nat → Option (Nat × Nat × Nat), (∀ i, i < 16 → M.1 (64 * (16 + i) + 5) = 1 → f i ≠ none) ∧ X = zmomX G M f
def zRM (M : zMem) : Prop := (∀ k, inR (M.1 k)) ∧ ∀ id i, inR (M.2 id i)
def zWd (G : zG) (M : zMem) (X : va_W) (H : Heap) : Prop := va_P G.1 vwCl (zcl G M X) H ∧ va_D (zA G) (zcl G M X) ∧ zMo G M X ∧ zRM M
theorem zlen_nd : (zlenT.map (fun q => q.1)).Nodup := by decide +kernel
theorem zlen_small : ∀ q ∈ zlenT, q.1 < 640 ∧ q.2 < 30000 := by decide +kernel
theorem zlook {α : Type} {id : Nat} {n : α} : ∀ {l : List (Nat × α)}, l.lookup id = some n → (id, n) ∈ l
  | [], h => by cases h
  | (k, b) :: es, h => by
    rw [List.lookup_cons] at h
    cases hk : (id == k) with
    | true =>
      rw [hk] at h
      cases h
      rw [eq_of_beq hk]
      exact List.mem_cons_self
    | false =>
      rw [hk] at h
      exact List.mem_cons_of_mem _ (zlook h)
theorem zlen_mem {id : Nat} {i : Int} (h : 0 ≤ i ∧ i < alen id) : ∃ n : Nat, (id, n) ∈ zlenT ∧ alen id = n := by
  unfold alen at h ⊢
  cases hl : zlenT.lookup id with
  | none => rw [hl] at h; exact absurd h (by dsimp only; omega)
  | some n => exact ⟨n, zlook hl, rfl⟩
theorem zlen_uniq {i j : Nat} {a b c : Nat} (hi : zlenT[i]? = some (a, b)) (hj : zlenT[j]? = some (a, c)) : i = j := by
  have h1 : (zlenT.map (fun q => q.1))[i]? = some a := by rw [List.getElem?_map, hi]; rfl
  have h2 : (zlenT.map (fun q => q.1))[j]? = some a := by rw [List.getElem?_map, hj]; rfl
  have hl : i < (zlenT.map (fun q => q.1)).length := (List.getElem?_eq_some_iff.mp h1).1
  exact (List.getElem?_inj hl zlen_nd).mp (h1.trans h2.symm)
theorem zobjs_len (G : zG) (M : zMem) : (zobjs G M).length = 10 := rfl
theorem zarr_at (G : zG) (M : zMem) (X : va_W) {id n : Nat} (h : (id, n) ∈ zlenT) : ∃ k : Nat, (zcl G M X)[k]? = some (zad G id, zarrE G n (M.2 id)) ∧ ∀ f : Int → Int, (zcl G M X).set k (zad G id, zarrE G n f) = zcl G (putA M id f) X := by
  obtain ⟨i, hi⟩ := List.getElem?_of_mem h
  have hil : i < zlenT.length := (List.getElem?_eq_some_iff.mp hi).1
  have hlen : ∀ M', (zarrs G M').length = zlenT.length := fun M' => List.length_map _
  refine ⟨10 + i, ?_, fun f => ?_⟩
  · unfold zcl
    rw [List.getElem?_append_right (by rw [zobjs_len]; omega), zobjs_len, Nat.add_sub_cancel_left, List.getElem?_append_left (by rw [hlen]; exact hil)]
    unfold zarrs
    rw [List.getElem?_map, hi]
    rfl
  · unfold zcl
    rw [List.set_append_right _ _ (by rw [zobjs_len]; omega), zobjs_len, Nat.add_sub_cancel_left, List.set_append_left _ _ (by rw [hlen]; exact hil)]
    have e1 : zobjs G (putA M id f) = zobjs G M := rfl
    rw [e1]
    congr 2
    apply List.ext_getElem?
    intro j
    unfold zarrs
    rw [List.getElem?_set, List.getElem?_map]
    by_cases hij : i = j
    · subst hij
      rw [if_pos rfl, if_pos (by rw [List.length_map]; exact hil), List.getElem?_map, hi]
      simp only [Option.map_some, putA, if_true]
    · rw [if_neg hij, List.getElem?_map]
      cases hj : zlenT[j]? with
      | none => rfl
      | some q =>
        have hne : q.1 ≠ id := fun he => hij (zlen_uniq hi (by rw [hj]; exact congrArg some (Prod.ext he rfl) : zlenT[j]? = some (id, q.2)))
        simp only [Option.map_some, putA, if_neg hne]
theorem zMo_put {G : zG} {M : zMem} {X : va_W} (h : zMo G M X) {id : Nat} (hid : id < 1024) (f : Int → Int) : zMo G (putA M id f) X := by
  obtain ⟨g, h1, h2⟩ := h
  refine ⟨g, h1, h2.trans ?_⟩
  unfold zmomX
  congr 1
  refine congrArg (fun F => List.flatMap F (List.range 16)) (funext fun i => ?_)
  unfold zmomC
  have e1 : (putA M id f).2 (64 * (16 + i) + 2) = M.2 (64 * (16 + i) + 2) := if_neg (by omega)
  have e2 : (putA M id f).2 (64 * (16 + i) + 3) = M.2 (64 * (16 + i) + 3) := if_neg (by omega)
  rw [e1, e2]
  rfl
theorem zMo_set {G : zG} {M : zMem} {X : va_W} (h : zMo G M X) {k : Nat} (hk : k < 1024) (v : Int) : zMo G (setS M k v) X := by
  obtain ⟨g, h1, h2⟩ := h
  have e0 : ∀ i t, (setS M k v).1 (64 * (16 + i) + t) = M.1 (64 * (16 + i) + t) := fun i t => if_neg (by omega)
  refine ⟨g, fun i hi hg => h1 i hi (by rw [← e0]; exact hg), h2.trans ?_⟩
  unfold zmomX
  congr 1
  refine congrArg (fun F => List.flatMap F (List.range 16)) (funext fun i => ?_)
  unfold zmomC
  have e1 : (setS M k v).1 (64 * (16 + i)) = M.1 (64 * (16 + i)) := e0 i 0
  rw [e1, e0 i 1]
  rfl
theorem zRM_set {M : zMem} (h : zRM M) {k : Nat} {v : Int} (hv : inR v) : zRM (setS M k v) := ⟨fun j => by unfold setS; dsimp only; split; exact hv; exact h.1 j, h.2⟩
theorem zRM_put {M : zMem} (h : zRM M) {id : Nat} {f : Int → Int} (hf : ∀ i, inR (f i)) : zRM (putA M id f) := ⟨h.1, fun j i => by unfold putA; dsimp only; split; exact hf i; exact h.2 j i⟩
theorem zRM_up {M : zMem} (h : zRM M) {id : Nat} {i v : Int} (hv : inR v) : ∀ j, inR (upI (M.2 id) i v j) := fun j => by unfold upI; split; exact hv; exact h.2 id j
