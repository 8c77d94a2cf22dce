theorem zor_nat {a b : Int} (ha : 0 ≤ a ∧ a < 4096) (hb : 0 ≤ b ∧ b < 4096) : zor a b = ((a.toNat ||| b.toNat : Nat) : Int) := by
  have ho : a.toNat ||| b.toNat < 2 ^ 12 := Nat.or_lt_two_pow (by omega) (by omega)
  unfold zor
  rw [← Int32.toInt_toBitVec, Int32.toBitVec_or, BitVec.toInt_eq_toNat_of_lt, BitVec.toNat_or]
  · congr 2
    · rw [Int32.toBitVec_ofInt, BitVec.toNat_ofInt]; omega
    · rw [Int32.toBitVec_ofInt, BitVec.toNat_ofInt]; omega
  · rw [BitVec.toNat_or, Int32.toBitVec_ofInt, BitVec.toNat_ofInt, Int32.toBitVec_ofInt, BitVec.toNat_ofInt]
    have e1 : (a % (2 ^ 32 : Nat)).toNat = a.toNat := by omega
    have e2 : (b % (2 ^ 32 : Nat)).toNat = b.toNat := by omega
    rw [e1, e2]
    omega
theorem ten {P : Int → Prop} (h0 : P 0) (h1 : P 1) (h2 : P 2) (h3 : P 3) (h4 : P 4) (h5 : P 5) (h6 : P 6) (h7 : P 7) (h8 : P 8) (h9 : P 9) {p : Int} (hp : 0 ≤ p ∧ p < 10) : P p := by
  have : p = 0 ∨ p = 1 ∨ p = 2 ∨ p = 3 ∨ p = 4 ∨ p = 5 ∨ p = 6 ∨ p = 7 ∨ p = 8 ∨ p = 9 := by omega
  rcases this with h | h | h | h | h | h | h | h | h | h <;> subst h <;> assumption
theorem zshl_1 {p : Int} (hp : 0 ≤ p ∧ p < 10) : zshl 1 p = ((2 ^ p.toNat : Nat) : Int) := by
  revert hp
  intro hp
  exact ten (P := fun p => zshl 1 p = ((2 ^ p.toNat : Nat) : Int)) (by decide) (by decide) (by decide) (by decide) (by decide) (by decide) (by decide) (by decide) (by decide) (by decide) hp
theorem zshl_10 : zshl 1 10 = 1024 := by decide
theorem zshr_p {m p : Int} (hm : inR m) (hp : 0 ≤ p ∧ p < 10) : zshr m p = m / (2 ^ p.toNat : Nat) :=
  ten (P := fun p => zshr m p = m / (2 ^ p.toNat : Nat)) (zshr_k hm 0 0 (by decide)) (zshr_k hm 1 1 (by decide)) (zshr_k hm 2 2 (by decide)) (zshr_k hm 3 3 (by decide)) (zshr_k hm 4 4 (by decide)) (zshr_k hm 5 5 (by decide)) (zshr_k hm 6 6 (by decide)) (zshr_k hm 7 7 (by decide)) (zshr_k hm 8 8 (by decide)) (zshr_k hm 9 9 (by decide)) hp
def bt (m p : Int) : Int := zand (zshr m p) 1
theorem bt_tb {m p : Int} (hm : 0 ≤ m ∧ m < 1024) (hp : 0 ≤ p ∧ p < 10) : bt m p = if m.toNat.testBit p.toNat then 1 else 0 := by
  unfold bt
  rw [zand_1, zshr_p (inR_mk (by omega) (by omega)) hp]
  have e : m / ((2 ^ p.toNat : Nat) : Int) % 2 = ((m.toNat / 2 ^ p.toNat % 2 : Nat) : Int) := by
    have : m = (m.toNat : Int) := by omega
    rw [this]
    norm_cast
  rw [e, Nat.testBit_eq_decide_div_mod_eq]
  by_cases h : m.toNat / 2 ^ p.toNat % 2 = 1
  · rw [h]; simp
  · have h2 : m.toNat / 2 ^ p.toNat % 2 = 0 := by omega
    rw [h2]; simp
theorem bt_01 {m p : Int} (hm : 0 ≤ m ∧ m < 1024) (hp : 0 ≤ p ∧ p < 10) : bt m p = 0 ∨ bt m p = 1 := by
  rw [bt_tb hm hp]
  split
  · exact Or.inr rfl
  · exact Or.inl rfl
theorem or_b {m q : Int} (hm : 0 ≤ m ∧ m < 1024) (hq : 0 ≤ q ∧ q < 10) : 0 ≤ zor m (zshl 1 q) ∧ zor m (zshl 1 q) < 1024 := by
  have h2 : (2 : Nat) ^ q.toNat < 2 ^ 10 := Nat.pow_lt_pow_right (by omega) (by omega)
  rw [zshl_1 hq]
  obtain ⟨w, hw⟩ : ∃ w : Nat, w = 2 ^ q.toNat := ⟨_, rfl⟩
  rw [← hw] at h2 ⊢
  rw [zor_nat (by omega) (by omega), Int.toNat_natCast]
  have ho : m.toNat ||| w < 2 ^ 10 := Nat.or_lt_two_pow (by omega) h2
  omega
theorem bt_or {m q p : Int} (hm : 0 ≤ m ∧ m < 1024) (hq : 0 ≤ q ∧ q < 10) (hp : 0 ≤ p ∧ p < 10) : bt (zor m (zshl 1 q)) p = if p = q then 1 else bt m p := by
  have h2 : (2 : Nat) ^ q.toNat < 2 ^ 10 := Nat.pow_lt_pow_right (by omega) (by omega)
  have e : zor m ((2 ^ q.toNat : Nat) : Int) = ((m.toNat ||| 2 ^ q.toNat : Nat) : Int) := by
    obtain ⟨w, hw⟩ : ∃ w : Nat, w = 2 ^ q.toNat := ⟨_, rfl⟩
    rw [← hw] at h2 ⊢
    rw [zor_nat (by omega) (by omega), Int.toNat_natCast]
  rw [bt_tb (or_b hm hq) hp, bt_tb hm hp, zshl_1 hq, e, Int.toNat_natCast, Nat.testBit_or, Nat.testBit_two_pow]
  by_cases h : p = q
  · rw [if_pos h, h]; simp
  · have : ¬ q.toNat = p.toNat := by omega
    rw [if_neg h]; simp [this]
theorem bt_0 {p : Int} (hp : 0 ≤ p ∧ p < 10) : bt 0 p = 0 := by
  rw [bt_tb (by omega) hp]; simp
theorem bt_low {n p : Int} (hn : 1 ≤ n ∧ n ≤ 10) (hp : 0 ≤ p ∧ p < 10) : (0 ≤ zshl 1 n - 1 ∧ zshl 1 n - 1 < 1024) ∧ bt (zshl 1 n - 1) p = if p < n then 1 else 0 := by
  have e : zshl 1 n - 1 = ((2 ^ n.toNat - 1 : Nat) : Int) ∧ (2 : Nat) ^ n.toNat ≤ 2 ^ 10 := by
    by_cases h : n = 10
    · subst h; exact ⟨by decide, by decide⟩
    · have h1 : (2 : Nat) ^ n.toNat < 2 ^ 10 := Nat.pow_lt_pow_right (by omega) (by omega)
      have h3 : 1 ≤ (2 : Nat) ^ n.toNat := Nat.one_le_two_pow
      rw [zshl_1 (by omega)]
      omega
  have h3 : 1 ≤ (2 : Nat) ^ n.toNat := Nat.one_le_two_pow
  rw [e.1]
  refine ⟨by omega, ?_⟩
  rw [bt_tb (by omega) hp, Int.toNat_natCast, Nat.testBit_two_pow_sub_one]
  by_cases h : p < n
  · have : p.toNat < n.toNat := by omega
    rw [if_pos h]; simp [this]
  · have : ¬ p.toNat < n.toNat := by omega
    rw [if_neg h]; simp [this]
