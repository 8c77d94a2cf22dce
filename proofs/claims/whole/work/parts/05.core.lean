-- the memory as mathematics: scalars by id, int arrays by id; id = 64 * object + field; an object's own address stands at 64 * object + 63
abbrev zMem : Type := (Nat → Int) × (Nat → Int → Int)
abbrev zV : Type := Int ⊕ Nat
-- the frame of addresses: class numbers and slots, the class of int[], of Moment[], address of each id, where the law's own cells begin
abbrev zG : Type := va_G × ClassId × ClassId × (Nat → Nat) × Nat
abbrev zad (G : zG) (k : Nat) : Nat := G.2.2.2.1 k
abbrev zbs (G : zG) : Nat := G.2.2.2.2
abbrev zA (G : zG) : Nat → Prop := fun q => zbs G ≤ q
abbrev ztys (G : zG) : List (ClassId × FieldType) := [(G.2.1, .int), (G.2.2.1, .object "PackedPages$Moment")]
def inR (x : Int) : Prop := -2147483648 ≤ x ∧ x ≤ 2147483647
def zok : zV → Prop
  | .inl x => inR x
  | .inr _ => True
def zmv (G : zG) : zV → Value
  | .inl x => .int (Int32.ofInt x)
  | .inr a => .ref (zad G a)
def setS (M : zMem) (k : Nat) (v : Int) : zMem := (fun j => if j = k then v else M.1 j, M.2)
def putA (M : zMem) (id : Nat) (f : Int → Int) : zMem := (M.1, fun j => if j = id then f else M.2 j)
def upI (f : Int → Int) (i v : Int) : Int → Int := fun x => if x = i then v else f x
def setA (M : zMem) (id : Nat) (i v : Int) : zMem := putA M id (upI (M.2 id) i v)
-- numbers
theorem zr_toInt {x : Int} (h : inR x) : (Int32.ofInt x).toInt = x := Int32.toInt_ofInt_of_le (by have := h.1; omega) (by have := h.2; omega)
theorem zr_of (v : Int32) : inR v.toInt := ⟨by have := Int32.le_toInt v; omega, by have := Int32.toInt_lt v; omega⟩
theorem zr_back (v : Int32) : Int32.ofInt v.toInt = v := Int32.ofInt_toInt v
theorem zr_le {x y : Int} (hx : inR x) (hy : inR y) : Int32.ofInt x ≤ Int32.ofInt y ↔ x ≤ y := by
  rw [Int32.le_iff_toInt_le, zr_toInt hx, zr_toInt hy]
theorem zr_lt {x y : Int} (hx : inR x) (hy : inR y) : Int32.ofInt x < Int32.ofInt y ↔ x < y := by
  rw [Int32.lt_iff_toInt_lt, zr_toInt hx, zr_toInt hy]
theorem zr_eq {x y : Int} (hx : inR x) (hy : inR y) : Int32.ofInt x = Int32.ofInt y ↔ x = y := by
  rw [← Int32.toInt_inj, zr_toInt hx, zr_toInt hy]
theorem zr_0 : (0 : Int32) = Int32.ofInt 0 := by decide
theorem zr_inR0 : inR 0 := ⟨by decide, by decide⟩
theorem zr_cl {x : Int} (hx : inR x) : (Int32.ofInt x).toNatClampNeg = x.toNat := by
  show (Int32.ofInt x).toInt.toNat = x.toNat
  rw [zr_toInt hx]
theorem zr_in {x : Int} {n : Nat} (hx : inR x) (h0 : 0 ≤ x) (h1 : x < n) : vp_in (Int32.ofInt x) n := by
  rw [vp_in_iff, zr_toInt hx]
  exact ⟨h0, h1⟩
theorem zr_div {x y : Int} (hx : inR x) (hy : inR y) (h : 0 < y) : Int32.ofInt x / Int32.ofInt y = Int32.ofInt (x.tdiv y) := by
  rw [← Int32.toInt_inj, Int32.toInt_div_of_ne_right _ _ (by
    intro he
    have := congrArg Int32.toInt he
    rw [zr_toInt hy] at this
    have h2 : (-1 : Int32).toInt = -1 := by decide
    omega), zr_toInt hx, zr_toInt hy, zr_toInt]
  have h1 := hx.1
  have h2 := hx.2
  constructor
  · by_cases q : x < 0
    · have : x.tdiv y = -((-x).tdiv y) := by rw [Int.neg_tdiv, Int.neg_neg]
      rw [this, Int.tdiv_eq_ediv_of_nonneg (by omega)]
      have := Int.ediv_le_self (a := -x) y (by omega)
      omega
    · have q : 0 ≤ x := by omega
      have := Int.tdiv_nonneg q (Int.le_of_lt h)
      omega
  · by_cases q : x < 0
    · have : x.tdiv y = -((-x).tdiv y) := by rw [Int.neg_tdiv, Int.neg_neg]
      rw [this, Int.tdiv_eq_ediv_of_nonneg (by omega)]
      have := Int.ediv_nonneg (a := -x) (b := y) (by omega) (by omega)
      omega
    · have q : 0 ≤ x := by omega
      rw [Int.tdiv_eq_ediv_of_nonneg q]
      have := Int.ediv_le_self (a := x) y q
      omega
theorem zr_divR {x y : Int} (hx : inR x) (h : 0 < y) : inR (x.tdiv y) := by
  have h1 := hx.1
  have h2 := hx.2
  constructor
  · by_cases q : x < 0
    · have : x.tdiv y = -((-x).tdiv y) := by rw [Int.neg_tdiv, Int.neg_neg]
      rw [this, Int.tdiv_eq_ediv_of_nonneg (by omega)]
      have := Int.ediv_le_self (a := -x) y (by omega)
      omega
    · have q : 0 ≤ x := by omega
      have := Int.tdiv_nonneg q (Int.le_of_lt h)
      omega
  · by_cases q : x < 0
    · have : x.tdiv y = -((-x).tdiv y) := by rw [Int.neg_tdiv, Int.neg_neg]
      rw [this, Int.tdiv_eq_ediv_of_nonneg (by omega)]
      have := Int.ediv_nonneg (a := -x) (b := y) (by omega) (by omega)
      omega
    · have q : 0 ≤ x := by omega
      rw [Int.tdiv_eq_ediv_of_nonneg q]
      have := Int.ediv_le_self (a := x) y q
      omega
theorem zr_rem {x y : Int} (hx : inR x) (hy : inR y) (h : 0 < y) : Int32.ofInt x - Int32.ofInt x / Int32.ofInt y * Int32.ofInt y = Int32.ofInt (x.tmod y) := by
  rw [zr_div hx hy h, ← Int32.ofInt_mul, ← Int32.ofInt_sub, Int.tmod_def, Int.mul_comm]
theorem zr_remR {x y : Int} (hx : inR x) (hy : inR y) (h : 0 < y) : inR (x.tmod y) := by
  have h1 := Int.tmod_lt_of_pos x h
  have h2 : -y < x.tmod y := by
    have := Int.neg_tmod x y
    have := Int.tmod_lt_of_pos (-x) h
    omega
  have := hy.1
  have := hy.2
  exact ⟨by omega, by omega⟩
-- bits: what the machine's word operations answer, as numbers
def zand (x y : Int) : Int := (Int32.ofInt x &&& Int32.ofInt y).toInt
def zor (x y : Int) : Int := (Int32.ofInt x ||| Int32.ofInt y).toInt
def zxor (x y : Int) : Int := (Int32.ofInt x ^^^ Int32.ofInt y).toInt
def zshl (x y : Int) : Int := (Int32.ofInt x <<< (Int32.ofInt y &&& 31)).toInt
def zshr (x y : Int) : Int := (Int32.ofInt x >>> (Int32.ofInt y &&& 31)).toInt
def zushr (x y : Int) : Int := ((Int32.ofInt x).toUInt32 >>> ((Int32.ofInt y).toUInt32 &&& Int32.toUInt32 31)).toInt32.toInt
