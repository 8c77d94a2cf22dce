-- ===== the mathematics: rows of bytes, memory, bits
def gi (x : List Int) (j : Int) : Int := x.getD j.toNat 0
theorem gi_app_l {x y : List Int} {j : Int} (h0 : 0 ≤ j) (h : j < x.length) : gi (x ++ y) j = gi x j := by
  unfold gi
  rw [List.getD_eq_getElem?_getD, List.getD_eq_getElem?_getD, List.getElem?_append_left (by omega)]
theorem gi_app_r {x y : List Int} {j : Int} (h : (x.length : Int) ≤ j) : gi (x ++ y) j = gi y (j - x.length) := by
  unfold gi
  rw [List.getD_eq_getElem?_getD, List.getD_eq_getElem?_getD, List.getElem?_append_right (by omega)]
  congr 2
  omega
theorem gi_zero (a : Int) (x : List Int) : gi (a :: x) 0 = a := rfl
theorem gi_succ {a : Int} {x : List Int} {j : Int} (h : 1 ≤ j) : gi (a :: x) j = gi x (j - 1) := by
  have : j = ((j - 1).toNat + 1 : Nat) := by omega
  unfold gi
  have e : j.toNat = (j - 1).toNat + 1 := by omega
  rw [e]
  rfl
theorem gi_big {x : List Int} {j : Int} (h : (x.length : Int) ≤ j) : gi x j = 0 := by
  unfold gi
  rw [List.getD_eq_getElem?_getD, List.getElem?_eq_none (by omega)]
  rfl
theorem gi_nil (j : Int) : gi [] j = 0 := rfl
theorem gi_mem {x : List Int} {j : Int} (h0 : 0 ≤ j) (h : j < x.length) : gi x j ∈ x := by
  unfold gi
  rw [List.getD_eq_getElem?_getD, List.getElem?_eq_getElem (by omega)]
  exact List.getElem_mem _
theorem gi_ext {x y : List Int} (hl : x.length = y.length) (h : ∀ j : Int, 0 ≤ j → j < x.length → gi x j = gi y j) : x = y := by
  apply List.ext_getElem hl
  intro i h1 h2
  have := h i (by omega) (by omega)
  unfold gi at this
  rw [List.getD_eq_getElem?_getD, List.getD_eq_getElem?_getD] at this
  simpa [h1, h2] using this
def allB (x : List Int) : Prop := ∀ v ∈ x, 0 ≤ v ∧ v < 256
theorem allB_gi {x : List Int} (h : allB x) (j : Int) : 0 ≤ gi x j ∧ gi x j < 256 := by
  by_cases hj : j < x.length
  · by_cases h0 : 0 ≤ j
    · exact h _ (gi_mem h0 hj)
    · have e : gi x j = gi x 0 := by unfold gi; congr 1; omega
      rw [e]
      by_cases hx : (0 : Int) < x.length
      · exact h _ (gi_mem (by omega) hx)
      · rw [gi_big (by omega)]; omega
  · rw [gi_big (by omega)]; omega
theorem allB_nil : allB [] := fun _ h => by cases h
theorem allB_app {x y : List Int} : allB (x ++ y) ↔ allB x ∧ allB y := by
  unfold allB
  constructor
  · intro h
    exact ⟨fun v hv => h v (List.mem_append_left _ hv), fun v hv => h v (List.mem_append_right _ hv)⟩
  · rintro ⟨h1, h2⟩ v hv
    rcases List.mem_append.mp hv with q | q
    · exact h1 v q
    · exact h2 v q
theorem allB_cons {a : Int} {x : List Int} : allB (a :: x) ↔ (0 ≤ a ∧ a < 256) ∧ allB x := by
  unfold allB
  exact List.forall_mem_cons
def AL (a : Int → Int) (off : Int) (x : List Int) : Prop := ∀ j : Int, 0 ≤ j → j < x.length → a (off + j) = gi x j
theorem AL_nil (a : Int → Int) (off : Int) : AL a off [] := fun j h0 h => by simp at h; omega
theorem AL_app {a : Int → Int} {off : Int} {x y : List Int} : AL a off (x ++ y) ↔ AL a off x ∧ AL a (off + x.length) y := by
  constructor
  · intro h
    refine ⟨fun j h0 hj => ?_, fun j h0 hj => ?_⟩
    · rw [h j h0 (by rw [List.length_append]; omega), gi_app_l h0 hj]
    · have := h (x.length + j) (by omega) (by rw [List.length_append]; omega)
      rw [gi_app_r (by omega)] at this
      have e : (x.length : Int) + j - x.length = j := by omega
      rw [e] at this
      rw [← this]
      congr 1
      omega
  · rintro ⟨h1, h2⟩ j h0 hj
    rw [List.length_append] at hj
    by_cases hx : j < x.length
    · rw [gi_app_l h0 hx]; exact h1 j h0 hx
    · rw [gi_app_r (by omega), ← h2 (j - x.length) (by omega) (by omega)]
      congr 1
      omega
theorem AL_cons {a : Int → Int} {off v : Int} {x : List Int} : AL a off (v :: x) ↔ a off = v ∧ AL a (off + 1) x := by
  have := AL_app (a := a) (off := off) (x := [v]) (y := x)
  rw [show ([v] ++ x : List Int) = v :: x from rfl] at this
  rw [this]
  have e : AL a off [v] ↔ a off = v := by
    constructor
    · intro h
      have := h 0 (by omega) (by simp)
      simpa [gi] using this
    · intro h j h0 hj
      have : j = 0 := by simp at hj; omega
      subst this
      simpa [gi] using h
  rw [e]
  rfl
theorem AL_congr {a b : Int → Int} {off : Int} {x : List Int} (h : AL a off x) (he : ∀ j, off ≤ j → j < off + x.length → b j = a j) : AL b off x := fun j h0 hj => by
  rw [he _ (by omega) (by omega)]; exact h j h0 hj
theorem AL_up {a : Int → Int} {off i v : Int} {x : List Int} (h : AL a off x) (hi : i < off ∨ off + x.length ≤ i) : AL (upI a i v) off x := AL_congr h (fun j h1 h2 => if_neg (by omega))
theorem AL_snoc {a : Int → Int} {off v : Int} {x : List Int} (h : AL a off x) {i : Int} (hi : i = off + x.length) : AL (upI a i v) off (x ++ [v]) := by
  rw [AL_app]
  refine ⟨AL_up h (by omega), ?_⟩
  rw [AL_cons]
  exact ⟨by rw [← hi]; exact if_pos rfl, AL_nil _ _⟩
theorem AL_take {a : Int → Int} {off : Int} {x : List Int} (h : AL a off x) (n : Nat) : AL a off (x.take n) := by
  have e := List.take_append_drop n x
  rw [← e] at h
  exact (AL_app.mp h).1
theorem AL_inj {a : Int → Int} {off : Int} {x y : List Int} (h1 : AL a off x) (h2 : AL a off y) (hl : x.length = y.length) : x = y := gi_ext hl (fun j h0 hj => by rw [← h1 j h0 hj, h2 j h0 (by omega)])
-- the list of so many places of a function
def tk (a : Int → Int) (off : Int) : Nat → List Int
  | 0 => []
  | n + 1 => a off :: tk a (off + 1) n
theorem tk_len (a : Int → Int) : ∀ (n : Nat) (off : Int), (tk a off n).length = n
  | 0, _ => rfl
  | n + 1, off => by rw [tk, List.length_cons, tk_len a n]
theorem tk_AL (a : Int → Int) : ∀ (n : Nat) (off : Int), AL a off (tk a off n)
  | 0, off => AL_nil a off
  | n + 1, off => AL_cons.mpr ⟨rfl, tk_AL a n (off + 1)⟩
theorem tk_gi (a : Int → Int) (n : Nat) (off : Int) {j : Int} (h0 : 0 ≤ j) (h : j < n) : gi (tk a off n) j = a (off + j) := (tk_AL a n off j h0 (by rw [tk_len]; exact h)).symm
-- memory
theorem setS_1 (M : zMem) (k : Nat) (v : Int) (j : Nat) : (setS M k v).1 j = if j = k then v else M.1 j := rfl
theorem setS_2 (M : zMem) (k : Nat) (v : Int) : (setS M k v).2 = M.2 := rfl
theorem putA_1 (M : zMem) (k : Nat) (f : Int → Int) : (putA M k f).1 = M.1 := rfl
theorem putA_2 (M : zMem) (k : Nat) (f : Int → Int) (j : Nat) : (putA M k f).2 j = if j = k then f else M.2 j := rfl
theorem setA_1 (M : zMem) (k : Nat) (i v : Int) : (setA M k i v).1 = M.1 := rfl
theorem setA_2 (M : zMem) (k : Nat) (i v : Int) (j : Nat) : (setA M k i v).2 j = if j = k then upI (M.2 k) i v else M.2 j := rfl
theorem upI_same (f : Int → Int) (i v : Int) : upI f i v i = v := if_pos rfl
theorem upI_ne {f : Int → Int} {i v j : Int} (h : j ≠ i) : upI f i v j = f j := if_neg h
-- bits
theorem bv_ofInt {x : Int} : ((Int32.ofInt x).toBitVec.toNat : Int) = x % 4294967296 := by
  show ((BitVec.ofInt 32 x).toNat : Int) = _
  rw [BitVec.toNat_ofInt]
  have : (x % ((2 ^ 32 : Nat) : Int)) = x % 4294967296 := rfl
  rw [this]
  omega
theorem zand_k {x : Int} (k : Nat) (m : Int) (hm : (Int32.ofInt m).toBitVec.toNat = 2 ^ k - 1) (hk : k ≤ 20) : zand x m = x % (2 ^ k : Nat) := by
  unfold zand
  rw [pk_and (Int32.ofInt x) k hm]
  have h1 : (2 : Nat) ^ k ≤ 2 ^ 20 := Nat.pow_le_pow_right (by decide) hk
  have h2 : 0 < 2 ^ k := Nat.pow_pos (by decide)
  have h3 := Nat.mod_lt (Int32.ofInt x).toBitVec.toNat h2
  rw [nI_toInt (by omega)]
  have h4 := bv_ofInt (x := x)
  obtain ⟨q, hq⟩ : ∃ q, (4294967296 : Int) = (2 ^ k : Nat) * q := by
    refine ⟨((2 ^ (32 - k) : Nat) : Int), ?_⟩
    rw [← Int.natCast_mul, ← Nat.pow_add]
    have : k + (32 - k) = 32 := by omega
    rw [this]
    rfl
  rw [Int.natCast_emod, h4]
  exact Int.emod_emod_of_dvd x ⟨q, hq⟩
theorem zand_255 (x : Int) : zand x 255 = x % 256 := zand_k 8 255 (by decide) (by decide)
theorem zand_15 (x : Int) : zand x 15 = x % 16 := zand_k 4 15 (by decide) (by decide)
theorem zand_1 (x : Int) : zand x 1 = x % 2 := zand_k 1 1 (by decide) (by decide)
theorem zand_31 (x : Int) : zand x 31 = x % 32 := zand_k 5 31 (by decide) (by decide)
theorem zshr_k {x : Int} (hx : inR x) (k : Nat) (m : Int) (hm : ((Int32.ofInt m &&& 31).toBitVec.smod 32).toNat = k) : zshr x m = x / (2 ^ k : Nat) := by
  unfold zshr
  rw [pk_shr _ _ k hm, zr_toInt hx, Int.shiftRight_eq_div_pow]
theorem zshr_4 {x : Int} (hx : inR x) : zshr x 4 = x / 16 := zshr_k hx 4 4 (by decide)
theorem bv_byte {a : Int} (h : 0 ≤ a ∧ a < 256) : (Int32.ofInt a).toBitVec.toNat = a.toNat := by
  have := bv_ofInt (x := a)
  omega
theorem zxor_nat {a b : Int} (ha : 0 ≤ a ∧ a < 256) (hb : 0 ≤ b ∧ b < 256) : zxor a b = ((a.toNat ^^^ b.toNat : Nat) : Int) := by
  have h1 : a.toNat ^^^ b.toNat < 2 ^ 8 := Nat.xor_lt_two_pow (by omega) (by omega)
  unfold zxor
  show (Int32.ofInt a ^^^ Int32.ofInt b).toBitVec.toInt = _
  rw [Int32.toBitVec_xor, BitVec.toInt_eq_toNat_of_lt, BitVec.toNat_xor, bv_byte ha, bv_byte hb]
  rw [BitVec.toNat_xor, bv_byte ha, bv_byte hb]
  omega
theorem zxor_b {a b : Int} (ha : 0 ≤ a ∧ a < 256) (hb : 0 ≤ b ∧ b < 256) : 0 ≤ zxor a b ∧ zxor a b < 256 := by
  have h1 : a.toNat ^^^ b.toNat < 2 ^ 8 := Nat.xor_lt_two_pow (by omega) (by omega)
  rw [zxor_nat ha hb]
  omega
theorem zxor_inv {a b : Int} (ha : 0 ≤ a ∧ a < 256) (hb : 0 ≤ b ∧ b < 256) : zxor (zxor a b) b = a := by
  rw [zxor_nat (zxor_b ha hb) hb, zxor_nat ha hb, Int.toNat_natCast, Nat.xor_assoc, Nat.xor_self, Nat.xor_zero]
  omega
theorem toInt_mod (y : Int32) : y.toInt % 256 = (y.toBitVec.toNat : Int) % 256 := by
  show y.toBitVec.toInt % 256 = _
  rw [BitVec.toInt_eq_toNat_cond]
  split <;> omega
theorem feed_k {x : Int} (hx : inR x) (k : Nat) (m : Int) (hm : ((Int32.ofInt m &&& 31).toBitVec.smod 32).toNat = k) (hs : (((Int32.ofInt m).toUInt32 &&& Int32.toUInt32 31).toBitVec % 32).toNat = k) (hk : k = 0 ∨ k = 8 ∨ k = 16 ∨ k = 24) : zand (zushr x m) 255 = zand (zshr x m) 255 := by
  rw [zand_255, zand_255, zshr_k hx k m hm]
  unfold zushr
  rw [toInt_mod, pk_ushr _ _ k hs]
  have h := bv_ofInt (x := x)
  have e : (((Int32.ofInt x).toBitVec.toNat / 2 ^ k : Nat) : Int) = (x % 4294967296) / ((2 ^ k : Nat) : Int) := by
    rw [Int.natCast_ediv, h]
  rw [e]
  rcases hk with rfl | rfl | rfl | rfl
  · show x % 4294967296 / 1 % 256 = x / 1 % 256
    omega
  · show x % 4294967296 / 256 % 256 = x / 256 % 256
    omega
  · show x % 4294967296 / 65536 % 256 = x / 65536 % 256
    omega
  · show x % 4294967296 / 16777216 % 256 = x / 16777216 % 256
    omega
theorem feed_24 {x : Int} (hx : inR x) : zand (zushr x 24) 255 = zand (zshr x 24) 255 := feed_k hx 24 24 (by decide) (by decide) (by decide)
theorem feed_16 {x : Int} (hx : inR x) : zand (zushr x 16) 255 = zand (zshr x 16) 255 := feed_k hx 16 16 (by decide) (by decide) (by decide)
theorem feed_8 {x : Int} (hx : inR x) : zand (zushr x 8) 255 = zand (zshr x 8) 255 := feed_k hx 8 8 (by decide) (by decide) (by decide)
theorem feed_0 {x : Int} (hx : inR x) : zand (zushr x 0) 255 = zand (zshr x 0) 255 := feed_k hx 0 0 (by decide) (by decide) (by decide)
theorem tmod_pos {a b : Int} (h : 0 ≤ a) : Int.tmod a b = a % b := Int.tmod_eq_emod_of_nonneg h
theorem tdiv_pos {a b : Int} (h : 0 ≤ a) : Int.tdiv a b = a / b := Int.tdiv_eq_ediv_of_nonneg h
theorem inR_mk {x : Int} (h1 : -2147483648 ≤ x) (h2 : x ≤ 2147483647) : inR x := ⟨h1, h2⟩
