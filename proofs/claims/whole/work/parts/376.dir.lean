-- the directory as it grows and shrinks
theorem php : ∀ (n : Nat) (h : Nat → Nat), (∀ i, i ≤ n → h i < n) → ∃ i j, i < j ∧ j ≤ n ∧ h i = h j
  | 0, h, hh => absurd (hh 0 (Nat.le_refl 0)) (by omega)
  | n + 1, h, hh => by
    -- move the value n away
    by_cases q : ∃ i, i ≤ n ∧ h i = h (n + 1)
    · obtain ⟨i, h1, h2⟩ := q
      exact ⟨i, n + 1, by omega, by omega, h2⟩
    · have hne : ∀ i, i ≤ n → h i ≠ h (n + 1) := fun i hi e => q ⟨i, hi, e⟩
      obtain ⟨i, j, h1, h2, h3⟩ := php n (fun i => if h i = n then h (n + 1) else h i) (fun i hi => by
        have b1 := hh i (by omega)
        have b2 := hh (n + 1) (by omega)
        have b3 := hne i hi
        split <;> omega)
      refine ⟨i, j, h1, by omega, ?_⟩
      have n1 := hne i (by omega)
      have n2 := hne j (by omega)
      repeat' split at h3
      all_goals omega
theorem dir_free {f : Int → Int} (hD : DirOK f) (hu : f 640 < 10) : ∃ p, 0 ≤ p ∧ IsLF f p := by
  by_cases q : ∀ p, 0 ≤ p → p < 10 → IsUsed f p
  · exfalso
    have hch : ∀ p : Nat, ∃ i : Nat, p < 10 → ((i : Int) < f 640 ∧ f (641 + 2 * (i : Int)) = p) := by
      intro p
      by_cases hp : p < 10
      · obtain ⟨i, h0, h1, h2⟩ := q p (by omega) (by omega)
        have e : ((i.toNat : Nat) : Int) = i := by omega
        exact ⟨i.toNat, fun _ => ⟨by omega, by rw [e]; exact h2⟩⟩
      · exact ⟨0, fun h => absurd h hp⟩
    obtain ⟨i, j, h1, h2, h3⟩ := php 9 (fun p => (hch p).choose) (fun p hp => by
      have := ((hch p).choose_spec (by omega)).1
      omega)
    have e1 := ((hch i).choose_spec (by omega)).2
    have e2 := ((hch j).choose_spec (by omega)).2
    rw [h3, e2] at e1
    omega
  · obtain ⟨p, hp⟩ : ∃ p : Int, ¬ (0 ≤ p → p < 10 → IsUsed f p) := Classical.byContradiction (fun h => q (fun p => Classical.byContradiction (fun h2 => h ⟨p, h2⟩)))
    have hp0 : 0 ≤ p := Classical.byContradiction (fun h => hp (fun h2 => absurd h2 h))
    have hp1 : p < 10 := Classical.byContradiction (fun h => hp (fun _ h2 => absurd h2 h))
    have hp2 : ¬ IsUsed f p := fun h => hp (fun _ _ => h)
    obtain ⟨k, hk, hmin⟩ := pk_least (fun k : Nat => ¬ IsUsed f (k : Int)) ⟨p.toNat, by
      have e : ((p.toNat : Nat) : Int) = p := by omega
      rw [e]; exact hp2⟩
    have hkp : (k : Int) ≤ p := by
      by_cases q2 : k ≤ p.toNat
      · omega
      · have := hmin p.toNat (by omega)
        have e : ((p.toNat : Nat) : Int) = p := by omega
        rw [e] at this
        exact absurd hp2 this
    refine ⟨k, by omega, Or.inr ⟨⟨by omega, by omega⟩, hk, fun j j0 j1 => ?_⟩⟩
    have := hmin j.toNat (by omega)
    have e : ((j.toNat : Nat) : Int) = j := by omega
    rw [e] at this
    exact Classical.byContradiction this
noncomputable def lfN (f : Int → Int) : Int := Classical.epsilon (fun p => IsLF f p)
theorem lfN_eq {f : Int → Int} {p : Int} (h : IsLF f p) : lfN f = p := by
  have h2 : IsLF f (lfN f) := Classical.epsilon_spec (p := fun p => IsLF f p) ⟨p, h⟩
  exact isLF_uniq (fun q _ _ => Iff.rfl) h2 h
theorem lfN_ok {f : Int → Int} (hD : DirOK f) (hu : f 640 < 10) : (0 ≤ lfN f ∧ lfN f < 10) ∧ IsLF f (lfN f) ∧ ¬ IsUsed f (lfN f) := by
  obtain ⟨p, hp, h⟩ := dir_free hD hu
  have e := lfN_eq h
  rw [e]
  rcases h with h2 | h2
  · omega
  · exact ⟨h2.1, Or.inr h2, h2.2.1⟩
theorem inD_old {f : Int → Int} {m num fen j : Int} (hm : 0 ≤ m ∧ m ≤ f 640) (hj : 0 ≤ j ∧ j < m) : inD f m num fen (641 + 2 * j) = f (641 + 2 * j) ∧ inD f m num fen (642 + 2 * j) = f (642 + 2 * j) := by
  unfold inD
  constructor
  · rw [if_neg (by omega), if_neg (by omega), if_neg (by omega), if_neg (by omega)]
  · rw [if_neg (by omega), if_neg (by omega), if_neg (by omega), if_neg (by omega)]
theorem inD_new {f : Int → Int} {m num fen : Int} (hm : 0 ≤ m) : inD f m num fen (641 + 2 * m) = num ∧ inD f m num fen (642 + 2 * m) = fen ∧ inD f m num fen 640 = f 640 + 1 := by
  unfold inD
  refine ⟨?_, ?_, ?_⟩
  · rw [if_neg (by omega), if_pos rfl]
  · rw [if_neg (by omega), if_neg (by omega), if_pos rfl]
  · rw [if_pos rfl]
theorem inD_past {f : Int → Int} {m num fen j : Int} (hm : 0 ≤ m) (hj : m < j ∧ j ≤ f 640) : inD f m num fen (641 + 2 * j) = f (641 + 2 * (j - 1)) ∧ inD f m num fen (642 + 2 * j) = f (642 + 2 * (j - 1)) := by
  unfold inD
  constructor
  · rw [if_neg (by omega), if_neg (by omega), if_neg (by omega), if_pos (by omega)]
    exact congrArg f (by omega)
  · rw [if_neg (by omega), if_neg (by omega), if_neg (by omega), if_pos (by omega)]
    exact congrArg f (by omega)
theorem inD_blk {f : Int → Int} {m num fen j : Int} (hm : 0 ≤ m) (hj : j < 640) : inD f m num fen j = f j := by
  unfold inD
  rw [if_neg (by omega), if_neg (by omega), if_neg (by omega), if_neg (by omega)]
theorem rmD_old {f : Int → Int} {m j : Int} (hj : 0 ≤ j ∧ j < m) : rmD f m (641 + 2 * j) = f (641 + 2 * j) ∧ rmD f m (642 + 2 * j) = f (642 + 2 * j) := by
  unfold rmD
  constructor
  · rw [if_neg (by omega), if_neg (by omega)]
  · rw [if_neg (by omega), if_neg (by omega)]
theorem rmD_past {f : Int → Int} {m j : Int} (hm : 0 ≤ m) (hj : m ≤ j ∧ j < f 640 - 1) : rmD f m (641 + 2 * j) = f (641 + 2 * (j + 1)) ∧ rmD f m (642 + 2 * j) = f (642 + 2 * (j + 1)) := by
  unfold rmD
  constructor
  · rw [if_neg (by omega), if_pos (by omega)]
    exact congrArg f (by omega)
  · rw [if_neg (by omega), if_pos (by omega)]
    exact congrArg f (by omega)
theorem rmD_640 {f : Int → Int} {m : Int} : rmD f m 640 = f 640 - 1 := by unfold rmD; rw [if_pos rfl]
theorem rmD_blk {f : Int → Int} {m j : Int} (hm : 0 ≤ m) (hj : j < 640) : rmD f m j = f j := by
  unfold rmD
  rw [if_neg (by omega), if_neg (by omega)]
theorem DirOK_in {f : Int → Int} {m num fen : Int} (hD : DirOK f) (hm : 1 ≤ m ∧ m ≤ f 640) (hu : f 640 < 10) (hn : 0 ≤ num ∧ num < 10) (hnu : ¬ IsUsed f num) (hf1 : f (642 + 2 * (m - 1)) < fen) (hf2 : m < f 640 → fen < f (642 + 2 * m)) (hf3 : fen ≤ 255) : DirOK (inD f m num fen) := by
  obtain ⟨d1, d2, d3, d4, d5, d6⟩ := hD
  have hnew := inD_new (f := f) (m := m) (num := num) (fen := fen) (by omega)
  have ho : ∀ j, 0 ≤ j → j < m → inD f m num fen (641 + 2 * j) = f (641 + 2 * j) ∧ inD f m num fen (642 + 2 * j) = f (642 + 2 * j) := fun j h0 h1 => inD_old (by omega) ⟨h0, h1⟩
  have hp : ∀ j, m < j → j ≤ f 640 → inD f m num fen (641 + 2 * j) = f (641 + 2 * (j - 1)) ∧ inD f m num fen (642 + 2 * j) = f (642 + 2 * (j - 1)) := fun j h0 h1 => inD_past (by omega) ⟨h0, h1⟩
  have hnu2 : ∀ j, 0 ≤ j → j < f 640 → f (641 + 2 * j) ≠ num := fun j h0 h1 e => hnu ⟨j, h0, h1, e⟩
  have fm : ∀ a b, 0 ≤ a → a ≤ b → b < f 640 → f (642 + 2 * a) ≤ f (642 + 2 * b) := fun a b h0 h1 h2 => by
    by_cases q : a = b
    · rw [q]; omega
    · have := d5 a b h0 (by omega) h2; omega
  refine ⟨by rw [hnew.2.2]; omega, ?_, ?_, ?_, ?_, ?_⟩
  · rw [hnew.2.2]
    intro i i0 i1
    by_cases q : i < m
    · rw [(ho i i0 q).1]; exact d2 i i0 (by omega)
    · by_cases q2 : i = m
      · rw [q2, hnew.1]; exact hn
      · rw [(hp i (by omega) (by omega)).1]; exact d2 (i - 1) (by omega) (by omega)
  · rw [hnew.2.2]
    intro i j i0 i1 j1
    by_cases q : j < m
    · rw [(ho i i0 (by omega)).1, (ho j (by omega) q).1]; exact d3 i j i0 i1 (by omega)
    · by_cases q2 : j = m
      · rw [q2, hnew.1, (ho i i0 (by omega)).1]; exact hnu2 i i0 (by omega)
      · rw [(hp j (by omega) (by omega)).1]
        by_cases q3 : i < m
        · rw [(ho i i0 q3).1]; exact d3 i (j - 1) i0 (by omega) (by omega)
        · by_cases q4 : i = m
          · rw [q4, hnew.1]; exact fun e => hnu2 (j - 1) (by omega) (by omega) e.symm
          · rw [(hp i (by omega) (by omega)).1]; exact d3 (i - 1) (j - 1) (by omega) (by omega) (by omega)
  · have := (ho 0 (by omega) (by omega)).2
    rw [Int.mul_zero, Int.add_zero] at this
    rw [this]; exact d4
  · rw [hnew.2.2]
    intro i j i0 i1 j1
    by_cases q : j < m
    · rw [(ho i i0 (by omega)).2, (ho j (by omega) q).2]; exact d5 i j i0 i1 (by omega)
    · by_cases q2 : j = m
      · rw [q2, hnew.2.1, (ho i i0 (by omega)).2]
        have := fm i (m - 1) i0 (by omega) (by omega)
        omega
      · rw [(hp j (by omega) (by omega)).2]
        by_cases q3 : i < m
        · rw [(ho i i0 q3).2]; exact d5 i (j - 1) i0 (by omega) (by omega)
        · by_cases q4 : i = m
          · rw [q4, hnew.2.1]
            have := hf2 (by omega)
            have := fm m (j - 1) (by omega) (by omega) (by omega)
            omega
          · rw [(hp i (by omega) (by omega)).2]; exact d5 (i - 1) (j - 1) (by omega) (by omega) (by omega)
  · rw [hnew.2.2]
    intro i i0 i1
    by_cases q : i < m
    · rw [(ho i i0 q).2]; exact d6 i i0 (by omega)
    · by_cases q2 : i = m
      · rw [q2, hnew.2.1]; exact hf3
      · rw [(hp i (by omega) (by omega)).2]; exact d6 (i - 1) (by omega) (by omega)
theorem DirOK_rm {f : Int → Int} {m : Int} (hD : DirOK f) (hm : 1 ≤ m ∧ m < f 640) : DirOK (rmD f m) := by
  obtain ⟨d1, d2, d3, d4, d5, d6⟩ := hD
  have ho : ∀ j, 0 ≤ j → j < m → rmD f m (641 + 2 * j) = f (641 + 2 * j) ∧ rmD f m (642 + 2 * j) = f (642 + 2 * j) := fun j h0 h1 => rmD_old ⟨h0, h1⟩
  have hp : ∀ j, m ≤ j → j < f 640 - 1 → rmD f m (641 + 2 * j) = f (641 + 2 * (j + 1)) ∧ rmD f m (642 + 2 * j) = f (642 + 2 * (j + 1)) := fun j h0 h1 => rmD_past (by omega) ⟨h0, h1⟩
  refine ⟨by rw [rmD_640]; omega, ?_, ?_, ?_, ?_, ?_⟩
  · rw [rmD_640]
    intro i i0 i1
    by_cases q : i < m
    · rw [(ho i i0 q).1]; exact d2 i i0 (by omega)
    · rw [(hp i (by omega) (by omega)).1]; exact d2 (i + 1) (by omega) (by omega)
  · rw [rmD_640]
    intro i j i0 i1 j1
    by_cases q : j < m
    · rw [(ho i i0 (by omega)).1, (ho j (by omega) q).1]; exact d3 i j i0 i1 (by omega)
    · rw [(hp j (by omega) (by omega)).1]
      by_cases q3 : i < m
      · rw [(ho i i0 q3).1]; exact d3 i (j + 1) i0 (by omega) (by omega)
      · rw [(hp i (by omega) (by omega)).1]; exact d3 (i + 1) (j + 1) (by omega) (by omega) (by omega)
  · have := (ho 0 (by omega) (by omega)).2
    rw [Int.mul_zero, Int.add_zero] at this
    rw [this]; exact d4
  · rw [rmD_640]
    intro i j i0 i1 j1
    by_cases q : j < m
    · rw [(ho i i0 (by omega)).2, (ho j (by omega) q).2]; exact d5 i j i0 i1 (by omega)
    · rw [(hp j (by omega) (by omega)).2]
      by_cases q3 : i < m
      · rw [(ho i i0 q3).2]; exact d5 i (j + 1) i0 (by omega) (by omega)
      · rw [(hp i (by omega) (by omega)).2]; exact d5 (i + 1) (j + 1) (by omega) (by omega) (by omega)
  · rw [rmD_640]
    intro i i0 i1
    by_cases q : i < m
    · rw [(ho i i0 q).2]; exact d6 i i0 (by omega)
    · rw [(hp i (by omega) (by omega)).2]; exact d6 (i + 1) (by omega) (by omega)
theorem wB_dir {f : Int → Int} {p j : Int} {x : List Int} (hp : 0 ≤ p ∧ p < 10) (hj : 640 ≤ j) : wB f p x j = f j := by
  unfold wB; rw [if_neg (by omega)]
theorem wB_other {f : Int → Int} {p j : Int} {x : List Int} (hj : j < 64 * p ∨ 64 * p + 64 ≤ j) : wB f p x j = f j := by
  unfold wB; rw [if_neg (by omega)]
theorem DirOK_congr {f g : Int → Int} (hD : DirOK f) (h : ∀ j, 640 ≤ j → j < 661 → g j = f j) : DirOK g := by
  obtain ⟨d1, d2, d3, d4, d5, d6⟩ := hD
  have h0 := h 640 (by omega) (by omega)
  refine ⟨by rw [h0]; exact d1, ?_, ?_, by rw [h 642 (by omega) (by omega)]; exact d4, ?_, ?_⟩
  · rw [h0]; intro i i0 i1; rw [h _ (by omega) (by omega)]; exact d2 i i0 i1
  · rw [h0]; intro i j i0 i1 j1; rw [h _ (by omega) (by omega), h _ (by omega) (by omega)]; exact d3 i j i0 i1 j1
  · rw [h0]; intro i j i0 i1 j1; rw [h _ (by omega) (by omega), h _ (by omega) (by omega)]; exact d5 i j i0 i1 j1
  · rw [h0]; intro i i0 i1; rw [h _ (by omega) (by omega)]; exact d6 i i0 i1
theorem DirOK_wB {f : Int → Int} {p : Int} {x : List Int} (hp : 0 ≤ p ∧ p < 10) (hD : DirOK f) : DirOK (wB f p x) := DirOK_congr hD (fun j h _ => wB_dir hp h)
