/-! ints by their values -/
theorem ti_lo (x : Int32) : -2147483648 ≤ x.toInt := by have := Int32.minValue_le_toInt x; simpa using this
theorem ti_hi (x : Int32) : x.toInt < 2147483648 := by have := Int32.toInt_lt x; omega
theorem ti_bm (z : Int) : z.bmod 4294967296 = (z + 2147483648) % 4294967296 - 2147483648 := by
  unfold Int.bmod
  dsimp only
  split <;> omega
theorem ti_add (x y : Int32) : (x + y).toInt = (x.toInt + y.toInt + 2147483648) % 4294967296 - 2147483648 := by
  rw [Int32.toInt_add]; exact ti_bm _
theorem ti_sub (x y : Int32) : (x - y).toInt = (x.toInt - y.toInt + 2147483648) % 4294967296 - 2147483648 := by
  rw [Int32.toInt_sub]; exact ti_bm _
theorem ti_mul (x y : Int32) : (x * y).toInt = (x.toInt * y.toInt + 2147483648) % 4294967296 - 2147483648 := by
  rw [Int32.toInt_mul]; exact ti_bm _
theorem ti_neg (x : Int32) : (-x).toInt = (-x.toInt + 2147483648) % 4294967296 - 2147483648 := by
  rw [Int32.toInt_neg]; exact ti_bm _
theorem ti_lt {x y : Int32} : x < y ↔ x.toInt < y.toInt := Int32.lt_iff_toInt_lt
theorem ti_le {x y : Int32} : x ≤ y ↔ x.toInt ≤ y.toInt := Int32.le_iff_toInt_le
theorem ti_eq {x y : Int32} : x = y ↔ x.toInt = y.toInt := Int32.toInt_inj.symm
/-- the number of an int that isn't below 0 -/
def tn (x : Int32) : Nat := x.toInt.toNat
theorem tn_of {x : Int32} (h : 0 ≤ x.toInt) : x.toInt = (tn x : Int) := by unfold tn; omega
def iN (n : Nat) : Int32 := Int32.ofNat n
theorem iN_ti {n : Nat} (h : n < 2147483648) : (iN n).toInt = n := by
  unfold iN
  rw [Int32.toInt_ofNat_of_lt (by simpa using h)]
theorem tn_iN {n : Nat} (h : n < 2147483648) : tn (iN n) = n := by unfold tn; rw [iN_ti h]; omega
theorem iN_tn {x : Int32} (h : 0 ≤ x.toInt) : iN (tn x) = x := by
  rw [ti_eq, iN_ti (by have := ti_hi x; unfold tn; omega)]
  unfold tn; omega
theorem iN_lit (n : Nat) : (OfNat.ofNat n : Int32) = iN (OfNat.ofNat n) := rfl
theorem iN_add (a b : Nat) : iN a + iN b = iN (a + b) := (Int32.ofNat_add a b).symm
theorem iN_mul (a b : Nat) : iN a * iN b = iN (a * b) := (Int32.ofNat_mul a b).symm
theorem iN_sub {a b : Nat} (h : b ≤ a) : iN a - iN b = iN (a - b) := by
  have e : iN a = iN (a - b) + iN b := by rw [iN_add]; congr 1; omega
  rw [e, Int32.add_sub_cancel]
theorem iN_an (x : Int32) (b : Nat) : x + -iN b = x - iN b := (Int32.sub_eq_add_neg ..).symm
theorem iN_of {x : Int32} {n : Nat} (h : x.toInt = (n : Int)) : x = iN n := by
  have h1 := ti_hi x
  rw [ti_eq, iN_ti (by omega), h]
theorem iN_ti2 {n j : Nat} (h : n = j) (hl : j < 2147483648) : (iN n).toInt = (j : Int) := by rw [h]; exact iN_ti hl
theorem iN_le {a b : Nat} (ha : a < 2147483648) (hb : b < 2147483648) : iN a ≤ iN b ↔ a ≤ b := by rw [ti_le, iN_ti ha, iN_ti hb]; omega
theorem iN_lt {a b : Nat} (ha : a < 2147483648) (hb : b < 2147483648) : iN a < iN b ↔ a < b := by rw [ti_lt, iN_ti ha, iN_ti hb]; omega
theorem iN_eq {a b : Nat} (ha : a < 2147483648) (hb : b < 2147483648) : iN a = iN b ↔ a = b := by rw [ti_eq, iN_ti ha, iN_ti hb]; omega
