/-! stores over stores -/
theorem va_up_up {α : Type} (I : Nat → α) (a : Nat) (f g : α) : va_up (va_up I a f) a g = va_up I a g := by
  funext i; simp only [va_up]; split <;> rfl
theorem va_up_id {α : Type} (I : Nat → α) (a : Nat) : va_up I a (I a) = I := by
  funext i; simp only [va_up]; split
  · next h => rw [h]
  · rfl
theorem cpy_0 {v w : Nat → Int32} {f g : Nat} : va_cpy w v f g 0 = v := by
  funext i; simp only [va_cpy]; rw [if_neg (by omega)]
theorem cpy_step {v w : Nat → Int32} {f g j : Nat} : va_up (va_cpy w v f g j) (g + j) (w (f + j)) = va_cpy w v f g (j + 1) := by
  funext i
  simp only [va_up, va_cpy]
  by_cases h : i = g + j
  · subst h
    rw [if_pos rfl, if_pos (by omega)]
    congr 1; omega
  · rw [if_neg h]
    by_cases h2 : g ≤ i ∧ i < g + j
    · rw [if_pos h2, if_pos (by omega)]
    · rw [if_neg h2, if_neg (by omega)]
theorem cpy_off {v w : Nat → Int32} {f g n i : Nat} (h : i < g ∨ g + n ≤ i) : va_cpy w v f g n i = v i := by
  simp only [va_cpy]; rw [if_neg (by omega)]
theorem cpy_in {v w : Nat → Int32} {f g n i : Nat} (h : g ≤ i ∧ i < g + n) : va_cpy w v f g n i = w (f + (i - g)) := by
  simp only [va_cpy]; rw [if_pos h]
/-! the reference's web: a row w of 124 numbers -/
/-- the tab now, what it shows of its trail, the page there -/
def Nw (w : Nat → Int32) (t s p : Nat) : Prop := (w 2).toInt = (t : Int) ∧ t < 5 ∧ (w (47 + 10 * t)).toInt = (s : Int) ∧ s < 6 ∧ (w (48 + 10 * t + s)).toInt = (p : Int) ∧ p < 8
def freshF (w : Nat → Int32) (k : Nat) (kind page : Int32) : Nat → Int32 := va_up (va_up (va_up (va_up (va_up w k kind) (k + 1) page) (k + 2) 1) (k + 3) 0) (k + 4) page
def visF (w : Nat → Int32) (p : Nat) : Nat → Int32 := va_up w (8 + 5 * p) (w (8 + 5 * p) + (if w (8 + 5 * p) < 999 then 1 else 0))
theorem freshF_off {w : Nat → Int32} {k i : Nat} {a b : Int32} (h : i < k ∨ k + 5 ≤ i) : freshF w k a b i = w i := by
  simp only [freshF, va_up]
  rw [if_neg (by omega), if_neg (by omega), if_neg (by omega), if_neg (by omega), if_neg (by omega)]
def mostF (w : Nat → Int32) (t : Nat) : Nat := if w (44 + 10 * t) = 2 ∨ w (44 + 10 * t) = 5 then 3 else 6
theorem mostF_le (w : Nat → Int32) (t : Nat) : 3 ≤ mostF w t ∧ mostF w t ≤ 6 := by unfold mostF; split <;> omega
/-- a link is followed by a tab that isn't pinned -/
def comesF (w : Nat → Int32) (t s : Nat) (page : Int32) : Nat → Int32 :=
  if s + 2 > mostF w t then
    if w (44 + 10 * t) = 5 then freshF w (44 + 10 * t) 5 (w (45 + 10 * t))
    else va_up (va_up (va_up (va_cpy w w (49 + 10 * t) (48 + 10 * t) s) (48 + 10 * t + s) page) (47 + 10 * t) (iN s)) (46 + 10 * t) (iN (s + 1))
  else va_up (va_up (va_up w (49 + 10 * t + s) page) (47 + 10 * t) (iN (s + 1))) (46 + 10 * t) (iN (s + 2))
/-- a new tab at place q of n tabs -/
def insF (w : Nat → Int32) (n q : Nat) (place page : Int32) : Nat → Int32 :=
  va_up (va_up (freshF (va_cpy w w (44 + 10 * q) (54 + 10 * q) (10 * (n - q))) (44 + 10 * q) 1 page) 1 (w 1 + 1)) 2 place
theorem ins_step {w : Nat → Int32} {n c : Nat} (hc : c + 1 ≤ n) : va_cpy (va_cpy w w (44 + 10 * (c + 1)) (54 + 10 * (c + 1)) (10 * (n - (c + 1)))) (va_cpy w w (44 + 10 * (c + 1)) (54 + 10 * (c + 1)) (10 * (n - (c + 1)))) (44 + 10 * c) (44 + 10 * (c + 1)) 10 = va_cpy w w (44 + 10 * c) (54 + 10 * c) (10 * (n - c)) := by
  funext i
  by_cases h1 : 44 + 10 * (c + 1) ≤ i ∧ i < 44 + 10 * (c + 1) + 10
  · rw [cpy_in h1, cpy_off (by omega), cpy_in (by omega)]
    congr 1; omega
  · rw [cpy_off (by omega)]
    by_cases h2 : 54 + 10 * (c + 1) ≤ i ∧ i < 54 + 10 * (c + 1) + 10 * (n - (c + 1))
    · rw [cpy_in h2, cpy_in (by omega)]
      congr 1; omega
    · rw [cpy_off (by omega), cpy_off (by omega)]
/-- the tab now is kept among the closed ones -/
def keepF (w : Nat → Int32) (t c : Nat) : Nat → Int32 :=
  if w (44 + 10 * t) < 4 then
    if c = 3 then va_up (va_cpy (va_up (va_cpy (va_cpy w w 104 94 10) (va_cpy w w 104 94 10) 114 104 10) 3 (iN 2)) (va_up (va_cpy (va_cpy w w 104 94 10) (va_cpy w w 104 94 10) 114 104 10) 3 (iN 2)) (44 + 10 * t) 114 10) 3 (iN 3)
    else va_up (va_cpy w w (44 + 10 * t) (94 + 10 * c) 10) 3 (iN (c + 1))
  else w
def closesF (w : Nat → Int32) (T t c : Nat) : Nat → Int32 :=
  va_up (va_cpy (va_up (keepF w t c) 1 (iN (T - 1))) (va_up (keepF w t c) 1 (iN (T - 1))) (54 + 10 * t) (44 + 10 * t) (10 * (T - 1 - t))) 2 (if t < T - 1 then iN t else iN (T - 2))
theorem cls_step {v : Nat → Int32} {t k : Nat} (hk : t ≤ k) : va_cpy (va_cpy v v (54 + 10 * t) (44 + 10 * t) (10 * (k - t))) (va_cpy v v (54 + 10 * t) (44 + 10 * t) (10 * (k - t))) (44 + 10 * (k + 1)) (44 + 10 * k) 10 = va_cpy v v (54 + 10 * t) (44 + 10 * t) (10 * (k + 1 - t)) := by
  funext i
  by_cases h1 : 44 + 10 * k ≤ i ∧ i < 44 + 10 * k + 10
  · rw [cpy_in h1, cpy_off (by omega), cpy_in (by omega)]
    congr 1; omega
  · rw [cpy_off (by omega)]
    by_cases h2 : 44 + 10 * t ≤ i ∧ i < 44 + 10 * t + 10 * (k - t)
    · rw [cpy_in h2, cpy_in (by omega)]
    · rw [cpy_off (by omega), cpy_off (by omega)]
/-- the visits of the first k pages -/
def sumV (w : Nat → Int32) : Nat → Int32
  | 0 => 0
  | k + 1 => sumV w k + w (8 + 5 * k)
