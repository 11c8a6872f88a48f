/-! in how many ways, and how likely -/
def spJ (w : Nat → Int32) (v : Int32) (p : Nat) : Nat → (Nat → Int32) → Nat → Int32
  | 0, a => a
  | j + 1, a => va_up (spJ w v p j a) (tn (w (5 + 5 * p + j))) (spJ w v p j a (tn (w (5 + 5 * p + j))) + v)
def eachI (w : Nat → Int32) (b : Bool) (A : Nat → Int32) (p : Nat) : Int32 := if b then A p * (6 / w (4 + 5 * p)) else A p
def spP (w : Nat → Int32) (b : Bool) (A : Nat → Int32) : Nat → Nat → Int32
  | 0 => fun _ => 0
  | p + 1 => spJ w (eachI w b A p) p (tn (w (4 + 5 * p))) (spP w b A p)
def amt (w : Nat → Int32) (n : Nat) (b : Bool) (s : Nat) : Nat → Nat → Int32
  | 0 => fun q => if q = s then 1 else 0
  | k + 1 => spP w b (amt w n b s k) n
def bI (b : Bool) : Int32 := if b then 1 else 0
def sumT (a : Nat → Int32) : Nat → Nat
  | 0 => 0
  | k + 1 => sumT a k + tn (a k)
def NN (a : Nat → Int32) : Prop := ∀ q, q < 8 → 0 ≤ (a q).toInt
theorem sumT_le {a : Nat → Int32} {q : Nat} : ∀ m, q < m → tn (a q) ≤ sumT a m := by
  intro m
  induction m with
  | zero => intro h; omega
  | succ m ih =>
    intro h
    show _ ≤ sumT a m + tn (a m)
    by_cases e : q = m
    · subst e; omega
    · have := ih (by omega); omega
theorem sumT_mono {a : Nat → Int32} {m : Nat} : ∀ k, sumT a m ≤ sumT a (m + k) := by
  intro k
  induction k with
  | zero => exact Nat.le_refl _
  | succ k ih => show _ ≤ sumT a (m + k) + tn (a (m + k)); omega
theorem sumT_up {a : Nat → Int32} {t : Nat} {v : Int32} : ∀ m, (t < m → sumT (va_up a t v) m + tn (a t) = sumT a m + tn v) ∧ (m ≤ t → sumT (va_up a t v) m = sumT a m) := by
  intro m
  induction m with
  | zero => exact ⟨fun h => by omega, fun _ => rfl⟩
  | succ m ih =>
    have e1 : sumT (va_up a t v) (m + 1) = sumT (va_up a t v) m + tn (va_up a t v m) := rfl
    have e2 : sumT a (m + 1) = sumT a m + tn (a m) := rfl
    refine ⟨fun h => ?_, fun h => ?_⟩
    · by_cases e : t = m
      · subst e
        rw [e1, e2, va_at' rfl, ih.2 (Nat.le_refl _)]; omega
      · rw [e1, e2, va_ne' (by omega)]
        have := ih.1 (by omega); omega
    · rw [e1, e2, va_ne' (by omega), ih.2 (by omega)]
theorem tn_add {x : Int32} {v : Nat} (h : 0 ≤ x.toInt) (hb : tn x + v < 2147483648) : tn (x + iN v) = tn x + v ∧ 0 ≤ (x + iN v).toInt := by
  have e : x = iN (tn x) := (iN_tn h).symm
  rw [e, iN_add]
  have h1 : tn (iN (tn x)) = tn x := by rw [← e]
  rw [h1, tn_iN (by omega), iN_ti (by omega)]
  exact ⟨rfl, by omega⟩
theorem spJ_sum {w : Nat → Int32} {n p c v : Nat} {a : Nat → Int32} (hv : ∀ j, j < c → ∃ q : Nat, (w (5 + 5 * p + j)).toInt = (q : Int) ∧ q < n) (hn : n ≤ 8) (ha : NN a) (hb : sumT a 8 + c * v < 2147483648) : ∀ j, j ≤ c → NN (spJ w (iN v) p j a) ∧ sumT (spJ w (iN v) p j a) 8 = sumT a 8 + j * v := by
  intro j
  induction j with
  | zero => intro _; exact ⟨ha, by show sumT a 8 = _; omega⟩
  | succ j ih =>
    intro hj
    obtain ⟨i1, i2⟩ := ih (by omega)
    obtain ⟨q, hq, hqn⟩ := hv j (by omega)
    have et : tn (w (5 + 5 * p + j)) = q := by unfold tn; omega
    have hjc : (j + 1) * v ≤ c * v := Nat.mul_le_mul_right v hj
    have hj1 : (j + 1) * v = j * v + v := Nat.succ_mul j v
    have hle := sumT_le (a := spJ w (iN v) p j a) 8 (show q < 8 by omega)
    obtain ⟨t1, t2⟩ := tn_add (x := spJ w (iN v) p j a q) (v := v) (i1 q (by omega)) (by omega)
    show NN (va_up _ _ _) ∧ sumT (va_up _ _ _) 8 = _
    rw [et]
    refine ⟨fun r hr => ?_, ?_⟩
    · by_cases e : r = q
      · subst e; rw [va_at' rfl]; exact t2
      · rw [va_ne' e]; exact i1 r hr
    · have := (sumT_up (a := spJ w (iN v) p j a) (t := q) (v := spJ w (iN v) p j a q + iN v) 8).1 (by omega)
      omega
theorem each_c {w A : Nat → Int32} {p c : Nat} (hc : (w (4 + 5 * p)).toInt = (c : Int)) (hc1 : 1 ≤ c) (hc3 : c ≤ 3) (hA : 0 ≤ (A p).toInt) (hb : 6 * tn (A p) < 2147483648) : ∃ v, eachI w true A p = iN v ∧ c * v = 6 * tn (A p) := by
  refine ⟨tn (A p) * (6 / c), ?_, ?_⟩
  · unfold eachI
    rw [if_pos rfl, iN_of hc, iN_lit, iN_div (by omega) (by omega), ← iN_mul, iN_tn hA]
  · have : c = 1 ∨ c = 2 ∨ c = 3 := by omega
    rcases this with rfl | rfl | rfl
    · omega
    · omega
    · omega
theorem spP_sum {w A : Nat → Int32} {n : Nat} (hv : VL w n) (hn : n ≤ 8) (hA : NN A) (hb : 6 * sumT A 8 < 2147483648) : ∀ p, p ≤ n → NN (spP w true A p) ∧ sumT (spP w true A p) 8 = 6 * sumT A p := by
  intro p
  induction p with
  | zero => intro _; exact ⟨fun q _ => Int.le_refl _, rfl⟩
  | succ p ih =>
    intro hp
    obtain ⟨i1, i2⟩ := ih (by omega)
    obtain ⟨c, c1, c2, c3, c4⟩ := hv p (by omega)
    have ec : tn (w (4 + 5 * p)) = c := by unfold tn; omega
    have hle := sumT_le (a := A) 8 (show p < 8 by omega)
    obtain ⟨v, e1, e2⟩ := each_c (A := A) c1 c2 c3 (hA p (by omega)) (by omega)
    have hm := sumT_mono (a := A) (m := p + 1) (8 - (p + 1))
    rw [show p + 1 + (8 - (p + 1)) = 8 by omega] at hm
    have e3 : sumT A (p + 1) = sumT A p + tn (A p) := rfl
    have := spJ_sum (w := w) (p := p) (c := c) (v := v) (a := spP w true A p) c4 hn i1 (by omega) c (Nat.le_refl _)
    show NN (spJ w (eachI w true A p) p (tn (w (4 + 5 * p))) (spP w true A p)) ∧ sumT (spJ w (eachI w true A p) p (tn (w (4 + 5 * p))) (spP w true A p)) 8 = _
    rw [e1, ec]
    exact ⟨this.1, by omega⟩
theorem amt_sum {w : Nat → Int32} {n s : Nat} (hv : VL w n) (hn : n ≤ 8) (hs : s < 8) : ∀ k, k ≤ 8 → NN (amt w n true s k) ∧ sumT (amt w n true s k) 8 ≤ 6 ^ k := by
  intro k
  induction k with
  | zero =>
    intro _
    refine ⟨fun q _ => ?_, ?_⟩
    · show 0 ≤ (if q = s then (1 : Int32) else 0).toInt
      split <;> decide
    · have h : ∀ t : Fin 8, sumT (amt (fun _ => 0) 0 true t.1 0) 8 ≤ 1 := by decide
      exact h ⟨s, hs⟩
  | succ k ih =>
    intro hk
    obtain ⟨i1, i2⟩ := ih (by omega)
    have hp : 6 ^ k ≤ 6 ^ 7 := Nat.pow_le_pow_right (by omega) (by omega)
    have h7 : 6 ^ 7 = 279936 := by decide
    obtain ⟨s1, s2⟩ := spP_sum (A := amt w n true s k) hv hn i1 (by omega) n (Nat.le_refl _)
    have hm := sumT_mono (a := amt w n true s k) (m := n) (8 - n)
    rw [show n + (8 - n) = 8 by omega] at hm
    refine ⟨s1, ?_⟩
    show sumT (spP w true (amt w n true s k) n) 8 ≤ 6 ^ (k + 1)
    rw [s2, Nat.pow_succ]; omega
theorem amt_N {w : Nat → Int32} {n s k q : Nat} (hv : VL w n) (hn : n ≤ 8) (hs : s < 8) (hk : k ≤ 8) (hq : q < 8) : ∃ v, amt w n true s k q = iN v ∧ v ≤ 1679616 := by
  obtain ⟨h1, h2⟩ := amt_sum (s := s) hv hn hs k hk
  have hp : 6 ^ k ≤ 6 ^ 8 := Nat.pow_le_pow_right (by omega) hk
  have h8 : 6 ^ 8 = 1679616 := by decide
  have := sumT_le (a := amt w n true s k) 8 hq
  exact ⟨tn (amt w n true s k q), (iN_tn (h1 q hq)).symm, by omega⟩
def powI : Nat → Int32
  | 0 => 1
  | k + 1 => powI k * 6
theorem powI_N : ∀ k, powI k = iN (6 ^ k) := by
  intro k
  induction k with
  | zero => rfl
  | succ k ih => show powI k * 6 = _; rw [ih, iN_lit, iN_mul, Nat.pow_succ]
theorem pow_8 {k : Nat} (h : k ≤ 8) : 0 < 6 ^ k ∧ 6 ^ k ≤ 1679616 := by
  have hp : 6 ^ k ≤ 6 ^ 8 := Nat.pow_le_pow_right (by omega) h
  have h8 : 6 ^ 8 = 1679616 := by decide
  exact ⟨Nat.pow_pos (by omega), by omega⟩
theorem half_mod {y r : Nat} (h0 : 0 < r) (h1 : r < y) : 2 * (y % r) < y := by
  have h2 := Nat.mod_lt y h0
  have h3 := Nat.mod_add_div y r
  have h4 : 1 ≤ y / r := (Nat.le_div_iff_mul_le h0).mpr (by omega)
  have h5 : r * 1 ≤ r * (y / r) := Nat.mul_le_mul_left r h4
  omega
theorem gcd_step {x y : Nat} : Nat.gcd y (x % y) = Nat.gcd x y := by
  rw [Nat.gcd_comm y (x % y), Nat.gcd_comm x y, Nat.gcd_rec y x]
def chI (w : Nat → Int32) (n p k q : Nat) (what : Int32) : Int32 := (if what = 0 then amt w n true p k q else powI k) / iN (Nat.gcd (tn (amt w n true p k q)) (6 ^ k))
