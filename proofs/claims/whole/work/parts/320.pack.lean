-- frames
def Fr (P : Nat → Prop) (M M' : zMem) : Prop := (∀ k, ¬ P k → M'.1 k = M.1 k) ∧ ∀ k, ¬ P k → M'.2 k = M.2 k
theorem Fr_refl {P : Nat → Prop} (M : zMem) : Fr P M M := ⟨fun _ _ => rfl, fun _ _ => rfl⟩
theorem Fr_trans {P : Nat → Prop} {M M' M'' : zMem} (h1 : Fr P M M') (h2 : Fr P M' M'') : Fr P M M'' := ⟨fun k h => (h2.1 k h).trans (h1.1 k h), fun k h => (h2.2 k h).trans (h1.2 k h)⟩
theorem Fr_mono {P P' : Nat → Prop} {M M' : zMem} (h : Fr P M M') (hp : ∀ k, P k → P' k) : Fr P' M M' := ⟨fun k q => h.1 k (fun q2 => q (hp k q2)), fun k q => h.2 k (fun q2 => q (hp k q2))⟩
theorem Fr_setS {P : Nat → Prop} {M : zMem} {k : Nat} {v : Int} (h : P k) : Fr P M (setS M k v) := ⟨fun j hj => if_neg (fun (e : j = k) => hj (by rw [e]; exact h)), fun _ _ => rfl⟩
theorem Fr_putA {P : Nat → Prop} {M : zMem} {k : Nat} {f : Int → Int} (h : P k) : Fr P M (putA M k f) := ⟨fun _ _ => rfl, fun j hj => if_neg (fun (e : j = k) => hj (by rw [e]; exact h))⟩
theorem Fr_setA {P : Nat → Prop} {M : zMem} {k : Nat} {i v : Int} (h : P k) : Fr P M (setA M k i v) := Fr_putA h
-- filters
def fv (fl h a b : Int) : Int := if fl = 1 then (h - a) % 256 else if fl = 2 then zxor h a else if fl = 3 then (h - b) % 256 else h
def flL (fl : Int) : List Int → Int → Int → List Int
  | [], _, _ => []
  | h :: t, a, b => fv fl h a b :: flL fl t h a
def tv (fl h a b : Int) : Int := if fl = 1 then (h + a) % 256 else if fl = 2 then zxor h a else if fl = 3 then (h + b) % 256 else h
def tbL (fl : Int) : List Int → Int → Int → List Int
  | [], _, _ => []
  | h :: t, a, b => tv fl h a b :: tbL fl t (tv fl h a b) a
theorem fv_b {fl h a b : Int} (hh : 0 ≤ h ∧ h < 256) (ha : 0 ≤ a ∧ a < 256) : 0 ≤ fv fl h a b ∧ fv fl h a b < 256 := by
  unfold fv
  have := zxor_b hh ha
  repeat' split
  all_goals omega
theorem tv_b {fl h a b : Int} (hh : 0 ≤ h ∧ h < 256) (ha : 0 ≤ a ∧ a < 256) : 0 ≤ tv fl h a b ∧ tv fl h a b < 256 := by
  unfold tv
  have := zxor_b hh ha
  repeat' split
  all_goals omega
theorem tv_fv {fl h a b : Int} (hh : 0 ≤ h ∧ h < 256) (ha : 0 ≤ a ∧ a < 256) : tv fl (fv fl h a b) a b = h := by
  unfold tv fv
  repeat' split
  all_goals first | omega | exact zxor_inv hh ha
theorem flL_len (fl : Int) : ∀ (x : List Int) (a b : Int), (flL fl x a b).length = x.length
  | [], _, _ => rfl
  | h :: t, a, b => by rw [flL, List.length_cons, List.length_cons, flL_len fl t]
theorem tbL_len (fl : Int) : ∀ (x : List Int) (a b : Int), (tbL fl x a b).length = x.length
  | [], _, _ => rfl
  | h :: t, a, b => by rw [tbL, List.length_cons, List.length_cons, tbL_len fl t]
theorem flL_b (fl : Int) : ∀ (x : List Int) (a b : Int), allB x → (0 ≤ a ∧ a < 256) → allB (flL fl x a b)
  | [], _, _, _, _ => allB_nil
  | h :: t, a, b, hx, ha => by
    rw [allB_cons] at hx
    rw [flL, allB_cons]
    exact ⟨fv_b hx.1 ha, flL_b fl t h a hx.2 hx.1⟩
theorem tbL_b (fl : Int) : ∀ (x : List Int) (a b : Int), allB x → (0 ≤ a ∧ a < 256) → allB (tbL fl x a b)
  | [], _, _, _, _ => allB_nil
  | h :: t, a, b, hx, ha => by
    rw [allB_cons] at hx
    rw [tbL, allB_cons]
    exact ⟨tv_b hx.1 ha, tbL_b fl t _ a hx.2 (tv_b hx.1 ha)⟩
theorem tb_fl (fl : Int) : ∀ (x : List Int) (a b : Int), allB x → (0 ≤ a ∧ a < 256) → tbL fl (flL fl x a b) a b = x
  | [], _, _, _, _ => rfl
  | h :: t, a, b, hx, ha => by
    rw [allB_cons] at hx
    rw [flL, tbL, tv_fv hx.1 ha, tb_fl fl t h a hx.2 hx.1]
theorem flL_gi (fl : Int) : ∀ (x : List Int) (a b j : Int), 0 ≤ j → j < x.length → gi (flL fl x a b) j = fv fl (gi x j) (if 1 ≤ j then gi x (j - 1) else a) (if 2 ≤ j then gi x (j - 2) else if j = 1 then a else b)
  | [], _, _, j, h0, h => by simp at h; omega
  | h :: t, a, b, j, h0, hj => by
    rw [List.length_cons] at hj
    by_cases q : j = 0
    · subst q
      rw [flL, gi_zero, gi_zero, if_neg (by omega), if_neg (by omega), if_neg (by omega)]
    · rw [flL, gi_succ (by omega), gi_succ (by omega), flL_gi fl t h a (j - 1) (by omega) (by omega)]
      congr 1
      · by_cases q1 : j = 1
        · subst q1; rfl
        · rw [if_pos (by omega), if_pos (by omega), gi_succ (by omega)]
      · by_cases q1 : j = 1
        · subst q1; rfl
        · by_cases q2 : j = 2
          · subst q2; rfl
          · rw [if_pos (by omega), if_pos (by omega), gi_succ (by omega)]
            congr 1
            omega
theorem tbL_gi (fl : Int) : ∀ (x : List Int) (a b j : Int), 0 ≤ j → j < x.length → gi (tbL fl x a b) j = tv fl (gi x j) (if 1 ≤ j then gi (tbL fl x a b) (j - 1) else a) (if 2 ≤ j then gi (tbL fl x a b) (j - 2) else if j = 1 then a else b)
  | [], _, _, j, h0, h => by simp at h; omega
  | h :: t, a, b, j, h0, hj => by
    rw [List.length_cons] at hj
    by_cases q : j = 0
    · subst q
      rw [tbL, gi_zero, gi_zero, if_neg (by omega), if_neg (by omega), if_neg (by omega)]
    · rw [tbL, gi_succ (by omega), gi_succ (x := t) (by omega), tbL_gi fl t _ a (j - 1) (by omega) (by omega)]
      congr 1
      · by_cases q1 : j = 1
        · subst q1; rfl
        · rw [if_pos (by omega), if_pos (by omega), gi_succ (by omega)]
      · by_cases q1 : j = 1
        · subst q1; rfl
        · by_cases q2 : j = 2
          · subst q2; rfl
          · rw [if_pos (by omega), if_pos (by omega), gi_succ (by omega)]
            congr 1
            omega
-- likes
def lkF (g : Int → Int) (n i d : Int) : Nat → Int → Int
  | 0, j => j
  | k + 1, j => if j < 130 ∧ i + j < n ∧ g (i + j) = g (i + j - d) then lkF g n i d k (j + 1) else j
def lk (g : Int → Int) (n i d : Int) : Int := lkF g n i d 130 0
def IsLk (g : Int → Int) (n i d m : Int) : Prop := (0 ≤ m ∧ m ≤ 130) ∧ (∀ j, 0 ≤ j → j < m → i + j < n ∧ g (i + j) = g (i + j - d)) ∧ (m = 130 ∨ n ≤ i + m ∨ g (i + m) ≠ g (i + m - d))
theorem lkF_is (g : Int → Int) (n i d : Int) : ∀ (k : Nat) (j : Int), 0 ≤ j → j + k = 130 → (∀ q, 0 ≤ q → q < j → i + q < n ∧ g (i + q) = g (i + q - d)) → IsLk g n i d (lkF g n i d k j)
  | 0, j, h0, h1, h2 => ⟨⟨h0, by simp [lkF]; omega⟩, h2, Or.inl (by simp [lkF]; omega)⟩
  | k + 1, j, h0, h1, h2 => by
    unfold lkF
    split
    · rename_i hc
      refine lkF_is g n i d k (j + 1) (by omega) (by omega) (fun q q0 q1 => ?_)
      by_cases e : q = j
      · rw [e]; exact hc.2
      · exact h2 q q0 (by omega)
    · rename_i hc
      refine ⟨⟨h0, by omega⟩, h2, ?_⟩
      by_cases q1 : j < 130
      · by_cases q2 : i + j < n
        · exact Or.inr (Or.inr (fun e => hc ⟨q1, q2, e⟩))
        · exact Or.inr (Or.inl (by omega))
      · exact Or.inl (by omega)
theorem lk_is (g : Int → Int) (n i d : Int) : IsLk g n i d (lk g n i d) := lkF_is g n i d 130 0 (by omega) (by omega) (fun q h0 h1 => by omega)
theorem lk_uniq {g : Int → Int} {n i d m m' : Int} (h : IsLk g n i d m) (h' : IsLk g n i d m') : m = m' := by
  obtain ⟨a1, a2, a3⟩ := h
  obtain ⟨b1, b2, b3⟩ := h'
  by_cases q : m < m'
  · have := b2 m a1.1 q
    rcases a3 with c | c | c
    · omega
    · omega
    · exact absurd this.2 c
  · by_cases q2 : m' < m
    · have := a2 m' b1.1 q2
      rcases b3 with c | c | c
      · omega
      · omega
      · exact absurd this.2 c
    · omega
theorem lk_eq {g : Int → Int} {n i d m : Int} (h : IsLk g n i d m) : lk g n i d = m := lk_uniq (lk_is g n i d) h
theorem lk_0 {g : Int → Int} {n i d : Int} (h : g i ≠ g (i - d)) : lk g n i d = 0 := lk_eq ⟨by omega, fun j h0 h1 => by omega, Or.inr (Or.inr (by rw [Int.add_zero]; exact h))⟩
theorem lk_le {g : Int → Int} {n i d : Int} (hi : i ≤ n) : lk g n i d ≤ 130 ∧ lk g n i d ≤ n - i := by
  have h := lk_is g n i d
  refine ⟨h.1.2, ?_⟩
  by_cases q : lk g n i d = 0
  · omega
  · have := h.2.1 (lk g n i d - 1) (by have := h.1.1; omega) (by omega)
    omega
def bst (g : Int → Int) (n i : Int) : Nat → Int × Int
  | 0 => (2, 0)
  | k + 1 => if lk g n i (k + 1) ≤ (bst g n i k).1 then bst g n i k else (lk g n i (k + 1), (k : Int) + 1)
theorem bst_skip {g : Int → Int} {n i : Int} : ∀ {a b : Nat}, a ≤ b → (∀ d : Nat, a < d → d ≤ b → lk g n i d ≤ (bst g n i a).1) → bst g n i b = bst g n i a
  | a, 0, h, _ => by have : a = 0 := by omega
                     rw [this]
  | a, b + 1, h, hd => by
    by_cases q : a = b + 1
    · rw [q]
    · have e := bst_skip (a := a) (b := b) (by omega) (fun d h1 h2 => hd d h1 (by omega))
      rw [bst, e, if_pos (by have := hd (b + 1) (by omega) (by omega); simpa using this)]
theorem bst_ok {g : Int → Int} {n i : Int} : ∀ (k : Nat), ((bst g n i k).1 = 2 ∧ (bst g n i k).2 = 0) ∨ (3 ≤ (bst g n i k).1 ∧ (1 ≤ (bst g n i k).2 ∧ (bst g n i k).2 ≤ k) ∧ lk g n i (bst g n i k).2 = (bst g n i k).1)
  | 0 => Or.inl ⟨rfl, rfl⟩
  | k + 1 => by
    have ih := bst_ok (g := g) (n := n) (i := i) k
    unfold bst
    split
    · rcases ih with h | h
      · exact Or.inl h
      · exact Or.inr ⟨h.1, ⟨h.2.1.1, by omega⟩, h.2.2⟩
    · refine Or.inr ⟨?_, ⟨by dsimp only; omega, by dsimp only; omega⟩, rfl⟩
      dsimp only
      rcases ih with h | h <;> omega
-- single ones
def em (g : Int → Int) (frm to i : Int) : List Int := if (i - frm) % 128 = 0 then [min 128 (to - i) - 1, g i] else [g i]
def sE (g : Int → Int) (frm to : Int) : Nat → List Int
  | 0 => []
  | k + 1 => sE g frm to k ++ em g frm to (frm + k)
theorem sE_len (g : Int → Int) (frm to : Int) : ∀ k : Nat, (sE g frm to k).length = k + (k + 127) / 128
  | 0 => rfl
  | k + 1 => by
    rw [sE, List.length_append, sE_len g frm to k]
    unfold em
    have e : frm + (k : Int) - frm = k := by omega
    rw [e]
    split
    · simp only [List.length_cons, List.length_nil]; omega
    · simp only [List.length_cons, List.length_nil]; omega
def sing (g : Int → Int) (frm to : Int) : List Int := sE g frm to (to - frm).toNat
def pkG (g : Int → Int) (n i s : Int) (acc : List Int) : List Int :=
  if h : i < n then
    (if h2 : 0 < (bst g n i (min 127 i).toNat).2 ∧ 0 < (bst g n i (min 127 i).toNat).1 then pkG g n (i + (bst g n i (min 127 i).toNat).1) (i + (bst g n i (min 127 i).toNat).1) (acc ++ sing g s i ++ [125 + (bst g n i (min 127 i).toNat).1, (bst g n i (min 127 i).toNat).2])
    else pkG g n (i + 1) s acc)
  else acc ++ sing g s n
termination_by (n - i).toNat
decreasing_by
  · omega
  · omega
def pk (x : List Int) (fl : Int) : List Int := pkG (gi (flL fl x 0 0)) x.length 0 0 []
theorem pkG_end {g : Int → Int} {n i s : Int} {acc : List Int} (h : n ≤ i) : pkG g n i s acc = acc ++ sing g s n := by
  rw [pkG, dif_neg (by omega)]
theorem pkG_no {g : Int → Int} {n i s : Int} {acc : List Int} (h : i < n) (h2 : (bst g n i (min 127 i).toNat).1 = 2 ∧ (bst g n i (min 127 i).toNat).2 = 0) : pkG g n i s acc = pkG g n (i + 1) s acc := by
  rw [pkG, dif_pos h, dif_neg (by omega)]
theorem pkG_yes {g : Int → Int} {n i s l d : Int} {acc : List Int} (h : i < n) (h2 : bst g n i (min 127 i).toNat = (l, d)) (hl : 3 ≤ l) (hd : 1 ≤ d) : pkG g n i s acc = pkG g n (i + l) (i + l) (acc ++ sing g s i ++ [125 + l, d]) := by
  rw [pkG, dif_pos h, dif_pos (by rw [h2]; dsimp only; omega), h2]
theorem pkG_len {g : Int → Int} {n : Int} : ∀ (k : Nat) (i s : Int) (acc : List Int), (n - i).toNat ≤ k → 0 ≤ s → s ≤ i → i ≤ n → (acc.length : Int) ≤ s + s / 128 → (pkG g n i s acc).length ≤ n + n / 128 + 1
  | 0, i, s, acc, h1, h2, h3, h4, h5 => by
    rw [pkG_end (by omega), List.length_append]
    unfold sing
    rw [sE_len]
    omega
  | k + 1, i, s, acc, h1, h2, h3, h4, h5 => by
    by_cases q : i < n
    · rcases bst_ok (g := g) (n := n) (i := i) (min 127 i).toNat with h | h
      · rw [pkG_no q h]
        exact pkG_len k (i + 1) s acc (by omega) h2 (by omega) (by omega) h5
      · obtain ⟨l, d, hb⟩ : ∃ l d, bst g n i (min 127 i).toNat = (l, d) := ⟨_, _, rfl⟩
        rw [hb] at h
        dsimp only at h
        have hle := lk_le (g := g) (d := d) (n := n) (i := i) (by omega)
        rw [h.2.2] at hle
        rw [pkG_yes q hb h.1 h.2.1.1]
        refine pkG_len k _ _ _ (by omega) (by omega) (by omega) (by omega) ?_
        rw [List.length_append, List.length_append]
        unfold sing
        rw [sE_len]
        simp only [List.length_cons, List.length_nil]
        omega
    · rw [pkG_end (by omega), List.length_append]
      unfold sing
      rw [sE_len]
      omega
theorem pk_len (x : List Int) (fl : Int) : ((pk x fl).length : Int) ≤ x.length + x.length / 128 + 1 := pkG_len _ 0 0 [] (Nat.le_refl _) (by omega) (by omega) (by omega) (by simp)
