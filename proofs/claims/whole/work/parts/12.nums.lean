/-! ints by their values -/
theorem ti_lo (x : Int32) : -2147483648 ≤ x.toInt := by have := Int32.minValue_le_toInt x; simpa using this
theorem ti_hi (x : Int32) : x.toInt < 2147483648 := by have := Int32.toInt_lt x; omega
theorem ti_bm (z : Int) : z.bmod 4294967296 = (z + 2147483648) % 4294967296 - 2147483648 := by
  unfold Int.bmod
  dsimp only
  split <;> omega
theorem ti_add (x y : Int32) : (x + y).toInt = (x.toInt + y.toInt + 2147483648) % 4294967296 - 2147483648 := by
  rw [Int32.toInt_add]; exact ti_bm _
theorem ti_sub (x y : Int32) : (x - y).toInt = (x.toInt - y.toInt + 2147483648) % 4294967296 - 2147483648 := by
  rw [Int32.toInt_sub]; exact ti_bm _
theorem ti_mul (x y : Int32) : (x * y).toInt = (x.toInt * y.toInt + 2147483648) % 4294967296 - 2147483648 := by
  rw [Int32.toInt_mul]; exact ti_bm _
theorem ti_neg (x : Int32) : (-x).toInt = (-x.toInt + 2147483648) % 4294967296 - 2147483648 := by
  rw [Int32.toInt_neg]; exact ti_bm _
theorem ti_lt {x y : Int32} : x < y ↔ x.toInt < y.toInt := Int32.lt_iff_toInt_lt
theorem ti_le {x y : Int32} : x ≤ y ↔ x.toInt ≤ y.toInt := Int32.le_iff_toInt_le
theorem ti_eq {x y : Int32} : x = y ↔ x.toInt = y.toInt := Int32.toInt_inj.symm
/-- the number of an int that isn't below 0 -/
def tn (x : Int32) : Nat := x.toInt.toNat
theorem tn_of {x : Int32} (h : 0 ≤ x.toInt) : x.toInt = (tn x : Int) := by unfold tn; omega
def iN (n : Nat) : Int32 := Int32.ofNat n
theorem iN_ti {n : Nat} (h : n < 2147483648) : (iN n).toInt = n := by
  unfold iN
  rw [Int32.toInt_ofNat_of_lt (by simpa using h)]
theorem tn_iN {n : Nat} (h : n < 2147483648) : tn (iN n) = n := by unfold tn; rw [iN_ti h]; omega
theorem iN_tn {x : Int32} (h : 0 ≤ x.toInt) : iN (tn x) = x := by
  rw [ti_eq, iN_ti (by have := ti_hi x; unfold tn; omega)]
  unfold tn; omega
