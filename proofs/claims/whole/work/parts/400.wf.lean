-- an image that is well formed
noncomputable def hiF (f : Int → Int) (i : Int) : Int := if i + 1 < f 640 then f (642 + 2 * (i + 1)) else 256
def keyB (lo hi : Int) (es : List (List Int)) : Prop := ∀ e ∈ es, lo ≤ gi e 1 ∧ gi e 1 < hi
def PgX (f : Int → Int) (i : Int) (pkd : List Int) (es : List (List Int)) (rs : RS) : Prop :=
  Pg f (f (641 + 2 * i)) pkd es rs ∧ keysIn (f (642 + 2 * i)) (hiF f i) rs ∧ keyB (f (642 + 2 * i)) (hiF f i) es ∧ (plain (rI (pR es rs) 0 256)).length ≤ 120
def zB (f : Int → Int) (p : Int) (pkd : List Int) (es : List (List Int)) : Prop := ∀ j, 2 + (pkd.length : Int) + es.flatten.length ≤ j → j < 64 → f (64 * p + j) = 0
def WFi (f : Int → Int) : Prop := DirOK f ∧ (∀ j, 0 ≤ j → j < 661 → 0 ≤ f j ∧ f j < 256) ∧ ∀ i, 0 ≤ i → i < f 640 → ∃ pkd es rs, PgX f i pkd es rs
def WFz (f : Int → Int) : Prop := DirOK f ∧ (∀ j, 0 ≤ j → j < 661 → 0 ≤ f j ∧ f j < 256) ∧ ∀ i, 0 ≤ i → i < f 640 → ∃ pkd es rs, PgX f i pkd es rs ∧ zB f (f (641 + 2 * i)) pkd es
theorem WFz_i {f : Int → Int} (h : WFz f) : WFi f := ⟨h.1, h.2.1, fun i h0 h1 => by
  obtain ⟨a, b, c, d⟩ := h.2.2 i h0 h1
  exact ⟨a, b, c, d.1⟩⟩
theorem Blk_agr {f g : Int → Int} {p : Int} {pkd : List Int} {es : List (List Int)} (h : agr f g) (hB : Blk f p pkd es) : Blk g p pkd es := by
  obtain ⟨h1, h2, h3, h4, h5, h6⟩ := hB
  refine ⟨h1, ?_, fun j h0 hj => ?_, h4, h5, fun q => ?_⟩
  · rw [← h _ (by omega) (by omega)]; exact h2
  · rw [List.length_append] at hj
    rw [← h _ (by omega) (by omega)]; exact h3 j h0 (by rw [List.length_append]; omega)
  · rw [← h _ (by omega) (by omega)]; exact h6 q
theorem Pg_agr {f g : Int → Int} {p : Int} {pkd : List Int} {es : List (List Int)} {rs : RS} (h : agr f g) (hP : Pg f p pkd es rs) : Pg g p pkd es rs := by
  obtain ⟨h1, h2, h3, h4, h5, h6⟩ := hP
  have hp := h1.1
  have e : g (64 * p) = f (64 * p) := (h _ (by omega) (by omega)).symm
  exact ⟨Blk_agr h h1, by rw [e]; exact h2, h3, by rw [e]; exact h4, h5, h6⟩
theorem hiF_agr {f g : Int → Int} (h : agr f g) (hu : f 640 ≤ 10) {i : Int} (hi : 0 ≤ i) : hiF f i = hiF g i := by
  unfold hiF
  have e := h 640 (by omega) (by omega)
  rw [← e]
  by_cases q : i + 1 < f 640
  · rw [if_pos q, if_pos q, h _ (by omega) (by omega)]
  · rw [if_neg q, if_neg q]
theorem PgX_agr {f g : Int → Int} {i : Int} {pkd : List Int} {es : List (List Int)} {rs : RS} (h : agr f g) (hu : f 640 ≤ 10) (hi : 0 ≤ i ∧ i < f 640) (hP : PgX f i pkd es rs) : PgX g i pkd es rs := by
  unfold PgX at hP ⊢
  rw [← h (641 + 2 * i) (by omega) (by omega), ← h (642 + 2 * i) (by omega) (by omega), ← hiF_agr h hu hi.1]
  exact ⟨Pg_agr h hP.1, hP.2⟩
theorem IsOrd_agr {f g : Int → Int} (h : agr f g) (hu : f 640 ≤ 10) {key i : Int} (hi : IsOrd f key i) : IsOrd g key i := by
  obtain ⟨h1, h2, h3⟩ := hi
  have e := h 640 (by omega) (by omega)
  unfold IsOrd
  rw [← e]
  refine ⟨h1, ?_, fun j a b => ?_⟩
  · rw [← h (642 + 2 * i) (by omega) (by omega)]; exact h2
  · rw [← h (642 + 2 * j) (by omega) (by omega)]; exact h3 j a b
theorem WFz_agr {f g : Int → Int} (h : agr f g) (hW : WFz f) : WFz g := by
  obtain ⟨h1, h2, h3⟩ := hW
  have e := h 640 (by omega) (by omega)
  refine ⟨agr_dir h h1, fun j a b => by rw [← h j a b]; exact h2 j a b, fun i a b => ?_⟩
  rw [← e] at b
  obtain ⟨pkd, es, rs, x1, x2⟩ := h3 i a b
  have hu := h1.1
  refine ⟨pkd, es, rs, PgX_agr h hu.2 ⟨a, b⟩ x1, ?_⟩
  have hp := x1.1.1.1
  rw [← h (641 + 2 * i) (by omega) (by omega)]
  intro j c d
  have := x1.1.1.2.2.2.1
  rw [← h _ (by omega) (by omega)]
  exact x2 j c d
theorem WFi_agr {f g : Int → Int} (h : agr f g) (hW : WFi f) : WFi g := by
  obtain ⟨h1, h2, h3⟩ := hW
  have e := h 640 (by omega) (by omega)
  refine ⟨agr_dir h h1, fun j a b => by rw [← h j a b]; exact h2 j a b, fun i a b => ?_⟩
  rw [← e] at b
  obtain ⟨pkd, es, rs, x1⟩ := h3 i a b
  exact ⟨pkd, es, rs, PgX_agr h h1.1.2 ⟨a, b⟩ x1⟩
-- the place of a key
theorem ord_ex {f : Int → Int} (hD : DirOK f) (key : Int) : ∃ i, IsOrd f key i := by
  have h : ∀ n : Nat, (n : Int) < f 640 → ∃ i : Int, (0 ≤ i ∧ i ≤ n) ∧ (i = 0 ∨ f (642 + 2 * i) ≤ key) ∧ ∀ j : Int, i < j → j ≤ n → key < f (642 + 2 * j) := by
    intro n
    induction n with
    | zero => intro _; exact ⟨0, by omega, Or.inl rfl, fun j a b => by omega⟩
    | succ n ih =>
      intro hn
      by_cases q : f (642 + 2 * ((n + 1 : Nat) : Int)) ≤ key
      · exact ⟨(n + 1 : Nat), by omega, Or.inr q, fun j a b => by omega⟩
      · obtain ⟨i, h1, h2, h3⟩ := ih (by omega)
        refine ⟨i, by omega, h2, fun j a b => ?_⟩
        by_cases e : j = (n + 1 : Nat)
        · rw [e]; omega
        · exact h3 j a (by omega)
  have hu := hD.1
  obtain ⟨i, h1, h2, h3⟩ := h (f 640 - 1).toNat (by omega)
  exact ⟨i, by omega, h2, fun j a b => h3 j a (by omega)⟩
theorem ord_keys {f : Int → Int} (hD : DirOK f) {key i : Int} (hk : 0 ≤ key ∧ key < 256) (h : IsOrd f key i) : f (642 + 2 * i) ≤ key ∧ key < hiF f i := by
  obtain ⟨h1, h2, h3⟩ := h
  constructor
  · rcases h2 with h2 | h2
    · subst h2
      have := hD.2.2.2.1
      simp only [Int.mul_zero, Int.add_zero]
      omega
    · exact h2
  · unfold hiF
    by_cases q : i + 1 < f 640
    · rw [if_pos q]; exact h3 (i + 1) (by omega) q
    · rw [if_neg q]; exact hk.2
theorem hiF_b {f : Int → Int} (hD : DirOK f) {i : Int} (hi : 0 ≤ i) : hiF f i ≤ 256 := by
  unfold hiF
  by_cases q : i + 1 < f 640
  · rw [if_pos q]; have := hD.2.2.2.2.2 (i + 1) (by omega) q; omega
  · rw [if_neg q]; omega
theorem fen_b {f : Int → Int} (hD : DirOK f) {i : Int} (hi : 0 ≤ i ∧ i < f 640) : 0 ≤ f (642 + 2 * i) := by
  have h0 := hD.2.2.2.1
  by_cases q : i = 0
  · subst q; simp only [Int.mul_zero, Int.add_zero]; omega
  · have := hD.2.2.2.2.1 0 i (by omega) (by omega) hi.2
    simp only [Int.mul_zero, Int.add_zero] at this
    omega
-- records between two keys
def rIn (lo hi : Int) (r : Rec) : Prop := ∀ k, r k ≠ none → lo ≤ k ∧ k < hi
theorem rIn_upd {lo hi : Int} {r : Rec} (h : rIn lo hi r) {k : Int} (hk : lo ≤ k ∧ k < hi) (v : Option (List Int)) : rIn lo hi (updR r k v) := by
  intro j hj
  unfold updR at hj
  by_cases e : j = k
  · rw [e]; exact hk
  · rw [if_neg e] at hj; exact h j hj
theorem ap_upd (r : Rec) (e : List Int) : ∃ v, ap r e = updR r (gi e 1) v ∨ ap r e = r := by
  unfold ap
  by_cases h1 : gi e 0 / 16 = 1
  · rw [if_pos h1]; exact ⟨_, Or.inl rfl⟩
  · rw [if_neg h1]
    by_cases h2 : gi e 0 / 16 = 2
    · rw [if_pos h2]; exact ⟨_, Or.inl rfl⟩
    · rw [if_neg h2]
      by_cases h3 : gi e 0 / 16 = 3
      · rw [if_pos h3]
        cases hr : r (gi e 1) with
        | none => exact ⟨none, Or.inr rfl⟩
        | some v => exact ⟨_, Or.inl rfl⟩
      · rw [if_neg h3]
        cases hr : r (gi e 1) with
        | none => exact ⟨none, Or.inr rfl⟩
        | some v => exact ⟨_, Or.inl rfl⟩
theorem rIn_ap {lo hi : Int} {r : Rec} {e : List Int} (h : rIn lo hi r) (he : lo ≤ gi e 1 ∧ gi e 1 < hi) : rIn lo hi (ap r e) := by
  obtain ⟨v, hv | hv⟩ := ap_upd r e
  · rw [hv]; exact rIn_upd h he v
  · rw [hv]; exact h
theorem rIn_adds {lo hi : Int} : ∀ (rs : RS) {r : Rec}, rIn lo hi r → keysIn lo hi rs → rIn lo hi (adds r rs)
  | [], r, h, _ => h
  | p :: t, r, h, hk => by
    show rIn lo hi (adds (updR r p.1 (some p.2)) t)
    exact rIn_adds t (rIn_upd h (hk p List.mem_cons_self) _) (fun q hq => hk q (List.mem_cons_of_mem _ hq))
theorem rIn_aps {lo hi : Int} : ∀ (es : List (List Int)) {r : Rec}, rIn lo hi r → keyB lo hi es → rIn lo hi (es.foldl ap r)
  | [], r, h, _ => h
  | e :: t, r, h, hk => by
    rw [List.foldl_cons]
    exact rIn_aps t (rIn_ap h (hk e List.mem_cons_self)) (fun q hq => hk q (List.mem_cons_of_mem _ hq))
theorem rIn_none {lo hi : Int} : rIn lo hi (fun _ => none) := fun _ h => absurd rfl h
theorem rIn_pR {lo hi : Int} {es : List (List Int)} {rs : RS} (h1 : keysIn lo hi rs) (h2 : keyB lo hi es) : rIn lo hi (pR es rs) := rIn_aps es (rIn_adds rs rIn_none h1) h2
theorem rl_in {lo hi : Int} {r : Rec} (h : rIn lo hi r) : ∀ (n : Nat) (low : Int), keysIn lo hi (rl r low n)
  | 0, _ => fun p hp => (by cases hp)
  | n + 1, low => by
    intro p hp
    rw [rl, List.mem_append] at hp
    rcases hp with hp | hp
    · cases hr : r low with
      | none => rw [one_none hr] at hp; cases hp
      | some v =>
        rw [one_some hr] at hp
        rw [mem_single hp]
        exact h low (by rw [hr]; intro e; cases e)
    · exact rl_in h n (low + 1) p hp
theorem rI_in {lo hi : Int} {r : Rec} (h : rIn lo hi r) (a b : Int) : keysIn lo hi (rI r a b) := rl_in h _ _
theorem keysAt_of {f : Int → Int} {i : Int} {r : Rec} (hD : DirOK f) (hi : 0 ≤ i) (h : rIn (f (642 + 2 * i)) (hiF f i) r) : keysAt f i r := by
  refine ⟨_, _, rfl, fun q => ?_, hiF_b hD hi, rI_in h 0 256⟩
  unfold hiF
  rw [if_pos q]
theorem Pg_RecOK {f : Int → Int} {p : Int} {pkd : List Int} {es : List (List Int)} {rs : RS} (hP : Pg f p pkd es rs) : RecOK (pR es rs) := by
  obtain ⟨h1, h2, h3, h4, h5, h6⟩ := hP
  exact RecOK_aps es (RecOK_adds rs (fun k v h => by cases h) h5) h1.2.2.2.2.1 h6
