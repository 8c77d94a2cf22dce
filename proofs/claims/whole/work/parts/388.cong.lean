def agr (f g : Int → Int) : Prop := ∀ j, 0 ≤ j → j < 661 → f j = g j
theorem agr_symm {f g : Int → Int} (h : agr f g) : agr g f := fun j a b => (h j a b).symm
theorem agr_trans {f g h : Int → Int} (h1 : agr f g) (h2 : agr g h) : agr f h := fun j a b => (h1 j a b).trans (h2 j a b)
theorem agr_dir {f g : Int → Int} (h : agr f g) (hD : DirOK f) : DirOK g := DirOK_congr hD (fun j a b => (h j (by omega) b).symm)
theorem used_imp {f g : Int → Int} (h : agr f g) (hu : f 640 ≤ 10) {p : Int} (hp : IsUsed f p) : IsUsed g p := by
  obtain ⟨i, h0, h1, h2⟩ := hp
  refine ⟨i, h0, ?_, ?_⟩
  · rw [← h 640 (by omega) (by omega)]; exact h1
  · rw [← h (641 + 2 * i) (by omega) (by omega)]; exact h2
theorem used_agr {f g : Int → Int} (h : agr f g) (hu : f 640 ≤ 10) (p : Int) : IsUsed f p ↔ IsUsed g p :=
  ⟨used_imp h hu, used_imp (agr_symm h) (by rw [← h 640 (by omega) (by omega)]; exact hu)⟩
theorem lfN_agr {f g : Int → Int} (h : agr f g) (hu : f 640 ≤ 10) : lfN f = lfN g := by
  unfold lfN
  congr 1
  funext p
  apply propext
  have e : ∀ q, IsUsed f q ↔ IsUsed g q := used_agr h hu
  unfold IsLF
  simp only [e]
theorem wB_agr {f g : Int → Int} (h : agr f g) (p : Int) (x : List Int) : agr (wB f p x) (wB g p x) := by
  intro j h0 h1
  unfold wB
  rw [h j h0 h1]
theorem inD_agr {f g : Int → Int} (h : agr f g) {m : Int} (hm : 0 ≤ m) (n fe : Int) : agr (inD f m n fe) (inD g m n fe) := by
  intro j h0 h1
  unfold inD
  rw [h j h0 h1, h 640 (by omega) (by omega)]
  by_cases q : 643 + 2 * m ≤ j
  · rw [h (j - 2) (by omega) (by omega)]
  · have e1 : ¬ (643 + 2 * m ≤ j ∧ j < 643 + 2 * g 640) := fun h => q h.1
    rw [if_neg e1, if_neg e1]
theorem rmD_agr {f g : Int → Int} (h : agr f g) (hu : f 640 ≤ 10) {m : Int} (hm : 0 ≤ m) : agr (rmD f m) (rmD g m) := by
  intro j h0 h1
  have e := h 640 (by omega) (by omega)
  unfold rmD
  rw [h j h0 h1, e]
  by_cases q : 641 + 2 * m ≤ j ∧ j < 641 + 2 * (g 640 - 1)
  · rw [h (j + 2) (by omega) (by omega)]
  · rw [if_neg q, if_neg q]
theorem wr1_agr {f g : Int → Int} (h : agr f g) (hu : f 640 ≤ 10) {i : Int} (hi : 0 ≤ i) (hi2 : i < 10) (k : Nat) (rs : RS) : agr (wr1 f i k rs) (wr1 g i k rs) ∧ pgN f i k = pgN g i k := by
  unfold wr1 pgN
  rw [lfN_agr h hu, h (641 + 2 * i) (by omega) (by omega)]
  refine ⟨?_, rfl⟩
  by_cases hk : k = 0
  · rw [if_pos hk, if_pos hk]; exact wB_agr h _ _
  · rw [if_neg hk, if_neg hk]; exact wB_agr (inD_agr h (by omega) _ _) _ _
theorem wr1_640 {f : Int → Int} {i : Int} (hi : 0 ≤ i) (hi2 : i < f 640) (hD : DirOK f) {k : Nat} (hk : k = 0 ∨ f 640 < 10) (rs : RS) : wr1 f i k rs 640 = if k = 0 then f 640 else f 640 + 1 := by
  unfold wr1
  by_cases h : k = 0
  · rw [if_pos h, if_pos h, wB_dir (hD.2.1 i hi hi2) (by omega)]
  · rw [if_neg h, if_neg h]
    have hl := lfN_ok hD (by omega)
    rw [wB_dir hl.1 (by omega)]
    exact (inD_new (by omega)).2.2
theorem spW_agr {i : Int} (hi : 0 ≤ i) (hi2 : i < 10) : ∀ (acc : List RS) (k : Nat) (f g : Int → Int), agr f g → (∀ n, n < acc.length → spW f i k (acc.take n) 640 ≤ 10) → agr (spW f i k acc) (spW g i k acc) ∧ spP f i k acc = spP g i k acc
  | [], k, f, g, h, _ => ⟨h, rfl⟩
  | rs :: t, k, f, g, h, hc => by
    have h1 := wr1_agr h (hc 0 (by simp)) hi hi2 k rs
    have h2 := spW_agr hi hi2 t (k + 1) _ _ h1.1 (fun n hn => by
      have := hc (n + 1) (by simp only [List.length_cons]; omega)
      rw [List.take_succ_cons, spW] at this
      exact this)
    rw [spW, spW, spP, spP, h1.2, h2.2]
    exact ⟨h2.1, rfl⟩
theorem inD_wB {f : Int → Int} {p m n fe : Int} {x : List Int} (hp : 0 ≤ p ∧ p < 10) (hm : 0 ≤ m) : inD (wB f p x) m n fe = wB (inD f m n fe) p x := by
  funext j
  by_cases hj : j < 640
  · rw [inD_blk hm hj]
    unfold wB
    rw [inD_blk hm hj]
  · rw [wB_dir hp (by omega)]
    unfold inD
    have w : ∀ k, 640 ≤ k → wB f p x k = f k := fun k hk => wB_dir hp hk
    rw [w 640 (by omega), w j (by omega)]
    by_cases q : 643 + 2 * m ≤ j
    · rw [w (j - 2) (by omega)]
    · have e1 : ¬ (643 + 2 * m ≤ j ∧ j < 643 + 2 * f 640) := fun h => q h.1
      rw [if_neg e1, if_neg e1]
theorem wr1_hi {f : Int → Int} {i j : Int} (hi : 0 ≤ i) (hi2 : i < f 640) (hD : DirOK f) {k : Nat} (hk : k = 0 ∨ (f 640 < 10 ∧ i + k ≤ f 640)) (rs : RS) (hj : 661 ≤ j) : wr1 f i k rs j = f j := by
  unfold wr1
  by_cases h : k = 0
  · rw [if_pos h, wB_dir (hD.2.1 i hi hi2) (by omega)]
  · rw [if_neg h]
    have hl := lfN_ok hD (by omega)
    rw [wB_dir hl.1 (by omega)]
    unfold inD
    rw [if_neg (by omega), if_neg (by omega), if_neg (by omega), if_neg (by omega)]
theorem lowK_at {r : Rec} {low high k : Int} (h : low ≤ high) (hk : low ≤ k ∧ k ≤ high) (h1 : rI r low k = []) (h2 : k < high → r k ≠ none) (hne : rI r low (high + 1) ≠ []) : k = lowK (rI r low (high + 1)) := by
  have e := rI_split r (low := low) (mid := k) (high := high + 1) hk.1 (by omega)
  rw [h1, List.nil_append, rI_cons r (i := k) (by omega)] at e
  have hs : r k ≠ none := by
    by_cases q : k < high
    · exact h2 q
    · intro hn
      apply hne
      rw [e, one_none hn, List.nil_append]
      exact rI_nil r (by omega)
  cases hr : r k with
  | none => exact absurd hr hs
  | some v => rw [e, one_some hr]; rfl
-- what the pages of a spread are, in the words of the directory: a prefix of them
theorem spW_dirN {f0 : Int → Int} {i : Int} {r : Rec} (hD : DirOK f0) (hi0 : 0 ≤ i ∧ i < f0 640) (hk : keysAt f0 i r) {acc : List RS} (hf : acc.flatten = rI r 0 256) (hn : neP acc) (hcap : f0 640 + acc.length - 1 ≤ 10) : ∀ n, 1 ≤ n → n ≤ acc.length → DirOK (spW f0 i 0 (acc.take n)) ∧ spW f0 i 0 (acc.take n) 640 = f0 640 + n - 1 := by
  intro n h1 h2
  obtain ⟨lo, hi, k1, k2, k3, k4⟩ := hk
  have hsort : sorted (rI r 0 256) := (rl_keys r _ 0).2
  have hlen : (acc.take n).length = n := by rw [List.length_take]; omega
  have hfl : acc.flatten = (acc.take n).flatten ++ (acc.drop n).flatten := by rw [← List.flatten_append, List.take_append_drop]
  rw [← hf, hfl] at hsort
  have := spW_dir hD hi0 k1 ⟨k2, k3⟩ (acc.take n) (by intro h; rw [h] at hlen; simp at hlen; omega) (by
    rcases hn with hn | hn
    · exact Or.inl (fun x hx => hn x (List.mem_of_mem_take hx))
    · exact Or.inr (by rw [hlen]; omega)) (sorted_app hsort).1 (fun p hp => k4 p (by rw [← hf, hfl]; exact List.mem_append_left _ hp)) (by rw [hlen]; omega)
  rw [hlen] at this
  exact ⟨this.1, this.2.1⟩
theorem spW_hi {f0 : Int → Int} {i : Int} {r : Rec} (hD : DirOK f0) (hi0 : 0 ≤ i ∧ i < f0 640) (hk : keysAt f0 i r) {acc : List RS} (hf : acc.flatten = rI r 0 256) (hn : neP acc) (hcap : f0 640 + acc.length - 1 ≤ 10) : ∀ n, n ≤ acc.length → ∀ j, 661 ≤ j → spW f0 i 0 (acc.take n) j = f0 j
  | 0, _, j, hj => by rw [List.take_zero]; rfl
  | n + 1, h, j, hj => by
    have ih := spW_hi hD hi0 hk hf hn hcap n (by omega) j hj
    obtain ⟨rs, hrs⟩ : ∃ rs, acc[n]? = some rs := ⟨acc[n]'(by omega), List.getElem?_eq_getElem (by omega)⟩
    have hlen : (acc.take n).length = n := by rw [List.length_take]; omega
    have e : acc.take (n + 1) = acc.take n ++ [rs] := by rw [List.take_succ, hrs]; rfl
    rw [e, spW_snoc, hlen, Nat.zero_add, ← ih]
    by_cases h0 : n = 0
    · subst h0
      rw [List.take_zero]
      exact wr1_hi hi0.1 hi0.2 hD (Or.inl rfl) rs hj
    · have hd := spW_dirN hD hi0 hk hf hn hcap n (by omega) (by omega)
      exact wr1_hi hi0.1 (by rw [hd.2]; omega) hd.1 (Or.inr (by rw [hd.2]; omega)) rs hj
theorem keysAt_agr {f g : Int → Int} {i : Int} {r : Rec} (h : agr f g) (hu : f 640 ≤ 10) (hi : 0 ≤ i ∧ i < f 640) (hk : keysAt f i r) : keysAt g i r := by
  obtain ⟨lo, hi9, k1, k2, k3, k4⟩ := hk
  have e := h 640 (by omega) (by omega)
  refine ⟨lo, hi9, ?_, fun q => ?_, k3, k4⟩
  · rw [← h (642 + 2 * i) (by omega) (by omega)]; exact k1
  · rw [← h (642 + 2 * (i + 1)) (by omega) (by omega)]; exact k2 (by rw [e]; exact q)
