-- stacks of rows of records
def StkC (r : Rec) (E : Int → Int) : Int → List RS → Prop
  | low, [] => low = 256
  | low, rs :: t => (low ≤ E t.length ∧ E t.length ≤ 256) ∧ rs = rI r low (E t.length) ∧ StkC r E (E t.length) t
theorem StkC_congr {r : Rec} {E E' : Int → Int} : ∀ (st : List RS) (low : Int), (∀ j : Int, 0 ≤ j → j < st.length → E' j = E j) → StkC r E low st → StkC r E' low st
  | [], low, _, h => h
  | rs :: t, low, he, h => by
    have e : E' t.length = E t.length := he t.length (by omega) (by simp only [List.length_cons]; omega)
    obtain ⟨h1, h2, h3⟩ := h
    refine ⟨by rw [e]; exact h1, by rw [e]; exact h2, ?_⟩
    rw [e]
    exact StkC_congr t _ (fun j h0 hj => he j h0 (by simp only [List.length_cons]; omega)) h3
def dpt : List RS → Prop
  | [] => True
  | rs :: t => 2 ^ t.length * rs.length ≤ 256 ∧ dpt t
theorem dpt_split {rs : RS} {t : List RS} (h : dpt (rs :: t)) : dpt (halfT rs :: halfD rs :: t) := by
  have hh := half_len rs
  obtain ⟨h1, h2⟩ := h
  refine ⟨?_, ?_, h2⟩
  · rw [List.length_cons, Nat.pow_succ, Nat.mul_assoc]
    exact Nat.le_trans (Nat.mul_le_mul_left _ (by omega)) h1
  · exact Nat.le_trans (Nat.mul_le_mul_left _ (by omega)) h1
theorem dpt_len {rs : RS} {t : List RS} (h : dpt (rs :: t)) (hl : 1 < rs.length) : t.length ≤ 7 := by
  by_cases q : t.length ≤ 7
  · exact q
  · have h1 : 2 ^ 8 ≤ 2 ^ t.length := Nat.pow_le_pow_right (by omega) (by omega)
    have h2 : 2 ^ t.length * 2 ≤ 2 ^ t.length * rs.length := Nat.mul_le_mul_left _ (by omega)
    have h3 := h.1
    omega
theorem dpt_len1 {rs : RS} {a t : List RS} (h : dpt (rs :: t)) (hn : (∀ x ∈ a ++ rs :: t, x ≠ []) ∨ (a ++ rs :: t).length = 1) : t.length ≤ 8 := by
  rcases hn with hn | hn
  · have hl : 1 ≤ rs.length := by
      have := hn rs (List.mem_append_right _ List.mem_cons_self)
      cases rs with
      | nil => exact absurd rfl this
      | cons a b => simp
    by_cases q : t.length ≤ 8
    · exact q
    · have h1 : 2 ^ 9 ≤ 2 ^ t.length := Nat.pow_le_pow_right (by omega) (by omega)
      have h2 : 2 ^ t.length * 1 ≤ 2 ^ t.length * rs.length := Nat.mul_le_mul_left _ (by omega)
      have h3 := h.1
      omega
  · rw [List.length_append, List.length_cons] at hn; omega
theorem plain_mem_le {l : List RS} {rs : RS} (h : rs ∈ l) : (plain rs).length ≤ (plain l.flatten).length := by
  induction l with
  | nil => cases h
  | cons x t ih =>
    rw [List.flatten_cons, plain_app, List.length_append]
    rw [List.mem_cons] at h
    rcases h with h | h
    · rw [h]; omega
    · have := ih h; omega
theorem flat_ne_len {l : List RS} (h : ∀ rs ∈ l, rs ≠ []) : l.length ≤ l.flatten.length := by
  induction l with
  | nil => simp
  | cons x t ih =>
    rw [List.flatten_cons, List.length_append, List.length_cons]
    have := ih (fun rs hr => h rs (List.mem_cons_of_mem _ hr))
    have hx : x ≠ [] := h x List.mem_cons_self
    have : 1 ≤ x.length := by
      cases x with
      | nil => exact absurd rfl hx
      | cons a b => simp
    omega
def neP (l : List RS) : Prop := (∀ rs ∈ l, rs ≠ []) ∨ l.length = 1
theorem ne_split {a t : List RS} {rs : RS} (hl : 1 < rs.length) (h : neP (a ++ rs :: t)) : neP (a ++ halfT rs :: halfD rs :: t) := by
  have hh := half_len rs
  refine Or.inl (fun x hx => ?_)
  rw [List.mem_append, List.mem_cons, List.mem_cons] at hx
  have hT : halfT rs ≠ [] := by intro e; rw [e] at hh; simp at hh; omega
  have hD : halfD rs ≠ [] := by intro e; rw [e] at hh; simp at hh; omega
  rcases hx with hx | hx | hx | hx
  · rcases h with h | h
    · exact h x (List.mem_append_left _ hx)
    · rw [List.length_append, List.length_cons] at h
      have : a.length = 0 := by omega
      cases a with
      | nil => cases hx
      | cons y z => simp at this
  · rw [hx]; exact hT
  · rw [hx]; exact hD
  · rcases h with h | h
    · exact h x (List.mem_append_right _ (List.mem_cons_of_mem _ hx))
    · rw [List.length_append, List.length_cons] at h
      have : t.length = 0 := by omega
      cases t with
      | nil => cases hx
      | cons y z => simp at this
theorem smu_0 {st : List RS} (h : smu st ≤ 0) : st = [] := by
  cases st with
  | nil => rfl
  | cons rs t => have := smu_pop rs t; omega
theorem flat_split {a t : List RS} {rs : RS} : (a ++ halfT rs :: halfD rs :: t).flatten = (a ++ rs :: t).flatten := by
  rw [List.flatten_append, List.flatten_append, List.flatten_cons, List.flatten_cons, List.flatten_cons, ← List.append_assoc (halfT rs), half_app]
theorem app_move {a t : List RS} {rs : RS} : a ++ rs :: t = (a ++ [rs]) ++ t := by rw [List.append_assoc]; rfl
theorem part62 {g : Int → Int} {rs : RS} (hg : trmOK g) (h : partOK g rs) (hok : rsOK rs) : (shape (plain rs)).length ≤ 62 := by
  have := hg.1
  rcases h with h | h
  · have h1 := plain_small hok h
    have h2 := shape_len (plain rs)
    omega
  · omega
def keysAt (f : Int → Int) (i : Int) (r : Rec) : Prop := ∃ lo hi, f (642 + 2 * i) = lo ∧ (i + 1 < f 640 → f (642 + 2 * (i + 1)) = hi) ∧ hi ≤ 256 ∧ keysIn lo hi (rI r 0 256)
def fSp : Nat → Prop := fun k => fTy k ∨ k = 128 ∨ k = 130 ∨ k = 134
def spRes (g : Int → Int) (r : Rec) (L : Lrn) : List RS × Lrn := spG g 512 [rI r 0 256] L []
def spCode (n : Nat) : Int := if n = 1 then 1 else 9 + n
def spInv (g : Int → Int) (r : Rec) (L0 : Lrn) (f0 a0 : Int → Int) (i0 : Int) (M0 : zMem) (v2 v3 v4 v5 : Int) (M : zMem) : Prop :=
  ∃ st L acc, spG g (512 - v5).toNat st L acc = spRes g r L0 ∧ smu st ≤ (512 - v5).toNat ∧ (0 ≤ v5 ∧ v5 ≤ 512) ∧ v2 = acc.length ∧ v4 = st.length ∧ StkC r (M.2 134) v3 st ∧ 0 ≤ v3 ∧ dpt st ∧ (acc ++ st).flatten = rI r 0 256 ∧ neP (acc ++ st) ∧ lrnOK L ∧ Lat (M.2 129) 0 L ∧ M.2 128 = spW f0 i0 0 acc ∧ (∀ j, M.2 130 j = if j ∈ spP f0 i0 0 acc then 1 else a0 j) ∧ (acc ≠ [] → f0 640 + acc.length - 1 ≤ 10) ∧ Fr fSp M0 M
