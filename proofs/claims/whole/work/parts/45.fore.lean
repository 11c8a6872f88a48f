/-! walks and shares -/
def nextP (w : Nat → Int32) (j p : Nat) : Nat := tn (w (5 + 5 * p + min j (tn (w (4 + 5 * p)) - 1)))
def walkN (w : Nat → Int32) (j : Nat) : Nat → Nat → Nat
  | 0, p => p
  | k + 1, p => walkN w j k (nextP w j p)
theorem nextP_ok {w : Nat → Int32} {n j p : Nat} (h : VL w n) (hp : p < n) : nextP w j p < n ∧ ∃ c : Nat, (w (4 + 5 * p)).toInt = (c : Int) ∧ 1 ≤ c ∧ c ≤ 3 ∧ w (5 + 5 * p + min j (c - 1)) = iN (nextP w j p) := by
  obtain ⟨c, h1, h2, h3, h4⟩ := h p hp
  obtain ⟨q, hq, hqn⟩ := h4 (min j (c - 1)) (by omega)
  have e : tn (w (4 + 5 * p)) = c := by unfold tn; omega
  have e2 : nextP w j p = q := by unfold nextP; rw [e]; unfold tn; omega
  rw [e2]
  exact ⟨hqn, c, h1, h2, h3, iN_of hq⟩
def overI (w : Nat → Int32) (n s : Int32) : Nat → Int32
  | 0 => n
  | k + 1 => overI w n s k - n * w (8 + 5 * k) / s
def aheadI (w : Nat → Int32) (pg : Nat) : Nat → Int32
  | 0 => 0
  | k + 1 => aheadI w pg k + (if k < pg ∧ 0 < w (8 + 5 * k) then 1 else 0)
def shareI (w : Nat → Int32) (n pg : Nat) (x : Int32) : Int32 := x * w (8 + 5 * pg) / sumV w n + (if aheadI w pg n < overI w x (sumV w n) n then 1 else 0)
def sumN (w : Nat → Int32) : Nat → Nat
  | 0 => 0
  | k + 1 => sumN w k + tn (w (8 + 5 * k))
theorem sumV_N {w : Nat → Int32} {n : Nat} (h : VV w n) : ∀ k, k ≤ 8 → sumV w k = iN (sumN w k) ∧ sumN w k ≤ 999 * k := by
  intro k
  induction k with
  | zero => intro _; exact ⟨rfl, by simp [sumN]⟩
  | succ k ih =>
    intro hk
    obtain ⟨i1, i2⟩ := ih (by omega)
    obtain ⟨v, v1, v2, _⟩ := h k (by omega)
    have e : tn (w (8 + 5 * k)) = v := by unfold tn; omega
    refine ⟨?_, ?_⟩
    · show sumV w k + w (8 + 5 * k) = iN (sumN w k + tn (w (8 + 5 * k)))
      rw [i1, iN_of v1, iN_add]
      rw [show tn (iN v) = v from tn_iN (by omega)]
    · show sumN w k + tn (w (8 + 5 * k)) ≤ _
      rw [e]; omega
theorem sumN_le {w : Nat → Int32} {p : Nat} : ∀ k, p < k → tn (w (8 + 5 * p)) ≤ sumN w k := by
  intro k
  induction k with
  | zero => intro h; omega
  | succ k ih =>
    intro h
    show _ ≤ sumN w k + tn (w (8 + 5 * k))
    by_cases hp : p = k
    · subst hp; omega
    · have := ih (by omega); omega
theorem sumV_pos {w : Nat → Int32} {n p : Nat} (h : VV w n) (hn : n ≤ 8) (hp : p < n) (hz : ¬ w (8 + 5 * p) = 0) : 0 < (sumV w n).toInt := by
  obtain ⟨e1, e2⟩ := sumV_N h n hn
  obtain ⟨v, v1, v2, _⟩ := h p (by omega)
  have hv : 1 ≤ v := by
    have : ¬ v = 0 := fun z => hz (by rw [iN_of v1, z]; rfl)
    omega
  have := sumN_le (w := w) n hp
  have e : tn (w (8 + 5 * p)) = v := by unfold tn; omega
  rw [e1, iN_ti (by omega)]
  omega
theorem VV.zero {w : Nat → Int32} {n p : Nat} (h : VV w n) (hp : p < 8) (hn : n ≤ p) : w (8 + 5 * p) = 0 := by
  obtain ⟨v, v1, v2, v3⟩ := h p hp
  rw [iN_of v1, v3 hn]; rfl
theorem sumV_8 {w : Nat → Int32} {n : Nat} (h : VV w n) : ∀ k, n ≤ k → k ≤ 8 → sumV w k = sumV w n := by
  intro k
  induction k with
  | zero => intro h1 _; rw [show n = 0 by omega]
  | succ k ih =>
    intro h1 h2
    by_cases e : n = k + 1
    · rw [e]
    · show sumV w k + w (8 + 5 * k) = _
      rw [h.zero (by omega) (by omega), Int32.add_zero]; exact ih (by omega) (by omega)
theorem overI_8 {w : Nat → Int32} {n : Nat} {x s : Int32} (h : VV w n) : ∀ k, n ≤ k → k ≤ 8 → overI w x s k = overI w x s n := by
  intro k
  induction k with
  | zero => intro h1 _; rw [show n = 0 by omega]
  | succ k ih =>
    intro h1 h2
    by_cases e : n = k + 1
    · rw [e]
    · show overI w x s k - x * w (8 + 5 * k) / s = _
      rw [h.zero (by omega) (by omega), Int32.mul_zero, Int32.zero_div, Int32.sub_zero]; exact ih (by omega) (by omega)
theorem aheadI_8 {w : Nat → Int32} {n pg : Nat} (hp : pg < n) : ∀ k, n ≤ k → k ≤ 8 → aheadI w pg k = aheadI w pg n := by
  intro k
  induction k with
  | zero => intro h1 _; rw [show n = 0 by omega]
  | succ k ih =>
    intro h1 h2
    by_cases e : n = k + 1
    · rw [e]
    · show aheadI w pg k + _ = _
      rw [if_neg (by omega), Int32.add_zero]; exact ih (by omega) (by omega)
