-- records by their keys
abbrev Rec : Type := Int → Option (List Int)
def updR (r : Rec) (k : Int) (v : Option (List Int)) : Rec := fun j => if j = k then v else r j
def Tab (sz bs : Int → Int) (r : Rec) : Prop := ∀ k, 0 ≤ k → k < 256 → (r k = none → sz k = -1) ∧ (∀ v, r k = some v → sz k = v.length ∧ AL bs (8 * k) v)
def RecOK (r : Rec) : Prop := ∀ k v, r k = some v → (0 ≤ k ∧ k < 256) ∧ v.length ≤ 8 ∧ allB v
theorem Tab_iff {sz bs : Int → Int} {r : Rec} (h : Tab sz bs r) {k : Int} (h0 : 0 ≤ k) (h1 : k < 256) : sz k = -1 ↔ r k = none := by
  constructor
  · intro hs
    cases hr : r k with
    | none => rfl
    | some v => have := ((h k h0 h1).2 v hr).1; omega
  · exact (h k h0 h1).1
theorem Tab_some {sz bs : Int → Int} {r : Rec} (h : Tab sz bs r) {k : Int} (h0 : 0 ≤ k) (h1 : k < 256) (hs : ¬ sz k = -1) : ∃ v, r k = some v ∧ sz k = v.length ∧ AL bs (8 * k) v := by
  cases hr : r k with
  | none => exact absurd ((h k h0 h1).1 hr) hs
  | some v => exact ⟨v, rfl, (h k h0 h1).2 v hr⟩
def one (r : Rec) (k : Int) : List (Int × List Int) := match r k with
  | none => []
  | some v => [(k, v)]
def rl (r : Rec) (low : Int) : Nat → List (Int × List Int)
  | 0 => []
  | n + 1 => one r low ++ rl r (low + 1) n
theorem rl_app (r : Rec) : ∀ (a b : Nat) (low : Int), rl r low (a + b) = rl r low a ++ rl r (low + a) b
  | 0, b, low => by
    have e : low + ((0 : Nat) : Int) = low := by omega
    rw [Nat.zero_add, e]; rfl
  | a + 1, b, low => by
    have e : a + 1 + b = (a + b) + 1 := by omega
    have e2 : low + 1 + (a : Int) = low + ((a + 1 : Nat) : Int) := by omega
    rw [e, rl, rl_app r a b (low + 1), e2, rl, List.append_assoc]
def rI (r : Rec) (low high : Int) : List (Int × List Int) := rl r low (high - low).toNat
theorem rI_nil (r : Rec) {low high : Int} (h : high ≤ low) : rI r low high = [] := by
  unfold rI
  have e : (high - low).toNat = 0 := by omega
  rw [e]; rfl
theorem rI_split (r : Rec) {low mid high : Int} (h1 : low ≤ mid) (h2 : mid ≤ high) : rI r low high = rI r low mid ++ rI r mid high := by
  unfold rI
  have e : (high - low).toNat = (mid - low).toNat + (high - mid).toNat := by omega
  have e2 : low + (((mid - low).toNat : Nat) : Int) = mid := by omega
  rw [e, rl_app, e2]
theorem rI_one (r : Rec) (k : Int) : rI r k (k + 1) = one r k := by
  unfold rI
  have e : (k + 1 - k).toNat = 1 := by omega
  rw [e, rl, rl, List.append_nil]
theorem rI_snoc (r : Rec) {low i : Int} (h : low ≤ i) : rI r low (i + 1) = rI r low i ++ one r i := by
  rw [rI_split r h (by omega), rI_one]
theorem rI_cons (r : Rec) {i high : Int} (h : i < high) : rI r i high = one r i ++ rI r (i + 1) high := by
  rw [rI_split r (low := i) (mid := i + 1) (by omega) (by omega), rI_one]
theorem one_none {r : Rec} {k : Int} (h : r k = none) : one r k = [] := by unfold one; rw [h]
theorem one_some {r : Rec} {k : Int} {v : List Int} (h : r k = some v) : one r k = [(k, v)] := by unfold one; rw [h]
theorem one_len (r : Rec) (k : Int) : (one r k).length ≤ 1 := by
  cases h : r k with
  | none => rw [one_none h]; simp
  | some v => rw [one_some h]; simp
theorem rl_len (r : Rec) : ∀ (n : Nat) (low : Int), (rl r low n).length ≤ n
  | 0, _ => by simp [rl]
  | n + 1, low => by
    have := rl_len r n (low + 1)
    have := one_len r low
    rw [rl, List.length_append]; omega
theorem rI_len (r : Rec) {low high : Int} (h : low ≤ high) : ((rI r low high).length : Int) ≤ high - low := by
  have := rl_len r (high - low).toNat low
  unfold rI
  omega
def pl1 (p : Int × List Int) : List Int := p.1 :: (p.2.length : Int) :: p.2
def plain (rs : List (Int × List Int)) : List Int := rs.flatMap pl1
theorem plain_app (a b : List (Int × List Int)) : plain (a ++ b) = plain a ++ plain b := by unfold plain; rw [List.flatMap_append]
theorem plain_nil : plain [] = [] := rfl
theorem plain_cons (p : Int × List Int) (t : List (Int × List Int)) : plain (p :: t) = pl1 p ++ plain t := by unfold plain; rw [List.flatMap_cons]
theorem plain_one (p : Int × List Int) : plain [p] = pl1 p := by rw [plain_cons, plain_nil, List.append_nil]
theorem pl1_len (p : Int × List Int) : (pl1 p).length = 2 + p.2.length := by unfold pl1; simp only [List.length_cons]; omega
theorem AL_drop {a : Int → Int} {off : Int} {x : List Int} (h : AL a off x) (n : Nat) (hn : n ≤ x.length) : AL a (off + n) (x.drop n) := by
  have e := List.take_append_drop n x
  rw [← e] at h
  have := (AL_app.mp h).2
  rw [List.length_take] at this
  have e2 : min n x.length = n := by omega
  rw [e2] at this
  exact this
theorem gi_drop {x : List Int} {n : Nat} {j : Int} (h0 : 0 ≤ j) : gi (x.drop n) j = gi x (n + j) := by
  unfold gi
  rw [List.getD_eq_getElem?_getD, List.getD_eq_getElem?_getD, List.getElem?_drop]
  congr 2
  omega
theorem allB_drop {x : List Int} (h : allB x) (n : Nat) : allB (x.drop n) := fun v hv => h v (List.mem_of_mem_drop hv)
-- an entry done
def ap (r : Rec) (e : List Int) : Rec :=
  if gi e 0 / 16 = 1 then updR r (gi e 1) (some (e.drop 2))
  else if gi e 0 / 16 = 2 then updR r (gi e 1) none
  else if gi e 0 / 16 = 3 then (match r (gi e 1) with
    | none => r
    | some v => updR r (gi e 1) (some (v.set (gi e 0 % 16).toNat (gi e 2))))
  else (match r (gi e 1) with
    | none => r
    | some v => updR r (gi e 1) (some (v ++ e.drop 2)))
def can (r : Rec) (e : List Int) : Prop := gi e 0 / 16 = 1 ∨ (gi e 0 / 16 = 2 ∧ r (gi e 1) ≠ none) ∨ ∃ v, r (gi e 1) = some v ∧ ((gi e 0 / 16 = 3 ∧ gi e 0 % 16 < v.length) ∨ (gi e 0 / 16 = 4 ∧ v.length + gi e 0 % 16 ≤ 8))
theorem eOK_cases {e : List Int} (h : eOK e) : (gi e 0 / 16 = 1 ∧ gi e 0 % 16 ≤ 8 ∧ (e.length : Int) = 2 + gi e 0 % 16) ∨ (gi e 0 / 16 = 2 ∧ gi e 0 % 16 = 0 ∧ (e.length : Int) = 2) ∨ (gi e 0 / 16 = 3 ∧ gi e 0 % 16 < 8 ∧ (e.length : Int) = 3) ∨ (gi e 0 / 16 = 4 ∧ (1 ≤ gi e 0 % 16 ∧ gi e 0 % 16 ≤ 8) ∧ (e.length : Int) = 2 + gi e 0 % 16) := by
  obtain ⟨h1, h2, h3⟩ := h
  unfold szB at h1
  repeat' split at h1
  all_goals omega
def rf (r : Rec) (e : List Int) : Int :=
  if gi e 0 / 16 = 1 then (if r (gi e 1) = some (e.drop 2) then -4 else 0)
  else match r (gi e 1) with
    | none => -2
    | some v => if gi e 0 / 16 = 3 then (if (v.length : Int) ≤ gi e 0 % 16 ∨ gi v (gi e 0 % 16) = gi e 2 then -4 else 0) else if gi e 0 / 16 = 4 then (if 8 < v.length + gi e 0 % 16 then -4 else 0) else 0
theorem can_of_rf {r : Rec} {e : List Int} (he : eOK e) (h : rf r e = 0) : can r e := by
  unfold rf at h
  unfold can
  have hc := eOK_cases he
  by_cases q : gi e 0 / 16 = 1
  · exact Or.inl q
  · rw [if_neg q] at h
    cases hr : r (gi e 1) with
    | none => rw [hr] at h; simp at h
    | some v =>
      rw [hr] at h
      dsimp only at h
      by_cases q2 : gi e 0 / 16 = 2
      · exact Or.inr (Or.inl ⟨q2, by simp⟩)
      · refine Or.inr (Or.inr ⟨v, rfl, ?_⟩)
        by_cases q3 : gi e 0 / 16 = 3
        · rw [if_pos q3] at h
          by_cases q5 : (v.length : Int) ≤ gi e 0 % 16
          · rw [if_pos (Or.inl q5)] at h; omega
          · exact Or.inl ⟨q3, by omega⟩
        · rw [if_neg q3] at h
          have q4 : gi e 0 / 16 = 4 := by omega
          rw [if_pos q4] at h
          by_cases q5 : 8 < v.length + gi e 0 % 16
          · rw [if_pos q5] at h; omega
          · exact Or.inr ⟨q4, by omega⟩
theorem set_gi {v : List Int} {n : Nat} {x j : Int} (hn : n < v.length) (h0 : 0 ≤ j) : gi (v.set n x) j = if j = n then x else gi v j := by
  unfold gi
  rw [List.getD_eq_getElem?_getD, List.getD_eq_getElem?_getD, List.getElem?_set]
  by_cases q : j = n
  · rw [if_pos q, if_pos (by omega), if_pos (by omega)]; rfl
  · rw [if_neg q, if_neg (by omega)]
theorem allB_set {v : List Int} {n : Nat} {x : Int} (h : allB v) (hx : 0 ≤ x ∧ x < 256) : allB (v.set n x) := fun w hw => by
  rcases List.mem_or_eq_of_mem_set hw with q | q
  · exact h w q
  · rw [q]; exact hx
theorem RecOK_upd {r : Rec} (h : RecOK r) {k : Int} {v : List Int} (hk : 0 ≤ k ∧ k < 256) (hv : v.length ≤ 8) (hb : allB v) : RecOK (updR r k (some v)) := by
  intro j w hj
  unfold updR at hj
  by_cases q : j = k
  · rw [if_pos q] at hj
    cases hj
    rw [q]
    exact ⟨hk, hv, hb⟩
  · rw [if_neg q] at hj
    exact h j w hj
theorem RecOK_del {r : Rec} (h : RecOK r) {k : Int} : RecOK (updR r k none) := by
  intro j w hj
  unfold updR at hj
  by_cases q : j = k
  · rw [if_pos q] at hj; cases hj
  · rw [if_neg q] at hj; exact h j w hj
theorem RecOK_ap {r : Rec} {e : List Int} (h : RecOK r) (he : eOK e) (hc : can r e) : RecOK (ap r e) := by
  have hk := allB_gi he.2.2 1
  have hcs := eOK_cases he
  unfold ap
  by_cases q1 : gi e 0 / 16 = 1
  · rw [if_pos q1]
    exact RecOK_upd h hk (by rw [List.length_drop]; omega) (allB_drop he.2.2 2)
  · rw [if_neg q1]
    by_cases q2 : gi e 0 / 16 = 2
    · rw [if_pos q2]; exact RecOK_del h
    · rw [if_neg q2]
      rcases hc with c | c | ⟨v, hv, c⟩
      · exact absurd c q1
      · exact absurd c.1 q2
      · have hvv := h _ v hv
        rw [hv]
        dsimp only
        rcases c with c | c
        · rw [if_pos c.1]
          exact RecOK_upd h hk (by rw [List.length_set]; exact hvv.2.1) (allB_set hvv.2.2 (allB_gi he.2.2 2))
        · rw [if_neg (by omega)]
          exact RecOK_upd h hk (by rw [List.length_append, List.length_drop]; omega) (allB_app.mpr ⟨hvv.2.2, allB_drop he.2.2 2⟩)
theorem Tab_upd {sz bs sz' bs' : Int → Int} {r : Rec} (h : Tab sz bs r) (hR : RecOK r) {k : Int} {v : List Int} (hk : 0 ≤ k ∧ k < 256) (hs : ∀ j, 0 ≤ j → j < 256 → sz' j = if j = k then (v.length : Int) else sz j) (hv : AL bs' (8 * k) v) (hb : ∀ j, 0 ≤ j → j < 2048 → (j < 8 * k ∨ 8 * k + 8 ≤ j) → bs' j = bs j) : Tab sz' bs' (updR r k (some v)) := by
  intro j h0 h1
  rw [hs j h0 h1]
  unfold updR
  by_cases q : j = k
  · rw [if_pos q, if_pos q]
    refine ⟨fun e => (by cases e), fun w hw => ?_⟩
    cases hw
    rw [q]
    exact ⟨rfl, hv⟩
  · rw [if_neg q, if_neg q]
    refine ⟨(h j h0 h1).1, fun w hw => ⟨((h j h0 h1).2 w hw).1, AL_congr ((h j h0 h1).2 w hw).2 (fun i i0 i1 => ?_)⟩⟩
    have := (hR j w hw).2.1
    exact hb i (by omega) (by omega) (by omega)
theorem Tab_del {sz sz' bs : Int → Int} {r : Rec} (h : Tab sz bs r) {k : Int} (hs : ∀ j, 0 ≤ j → j < 256 → sz' j = if j = k then -1 else sz j) : Tab sz' bs (updR r k none) := by
  intro j h0 h1
  rw [hs j h0 h1]
  unfold updR
  by_cases q : j = k
  · rw [if_pos q, if_pos q]
    exact ⟨fun _ => rfl, fun w hw => (by cases hw)⟩
  · rw [if_neg q, if_neg q]
    exact h j h0 h1
def adds (r : Rec) (rs : List (Int × List Int)) : Rec := rs.foldl (fun r p => updR r p.1 (some p.2)) r
def rsOK (rs : List (Int × List Int)) : Prop := ∀ p ∈ rs, (0 ≤ p.1 ∧ p.1 < 256) ∧ p.2.length ≤ 8 ∧ allB p.2
theorem RecOK_adds : ∀ (rs : List (Int × List Int)) {r : Rec}, RecOK r → rsOK rs → RecOK (adds r rs)
  | [], r, h, _ => h
  | p :: t, r, h, hs => by
    have hp := hs p List.mem_cons_self
    exact RecOK_adds t (RecOK_upd h hp.1 hp.2.1 hp.2.2) (fun q hq => hs q (List.mem_cons_of_mem _ hq))
def canAll : Rec → List (List Int) → Prop
  | _, [] => True
  | r, e :: t => can r e ∧ canAll (ap r e) t
theorem RecOK_aps : ∀ (es : List (List Int)) {r : Rec}, RecOK r → (∀ e ∈ es, eOK e) → canAll r es → RecOK (es.foldl ap r)
  | [], r, h, _, _ => h
  | e :: t, r, h, he, hc => RecOK_aps t (RecOK_ap h (he e List.mem_cons_self) hc.1) (fun x hx => he x (List.mem_cons_of_mem _ hx)) hc.2
theorem RecOK_0 : RecOK (fun _ => none) := fun k v h => by cases h
