theorem pow5_le {r : Nat} (h : r ≤ 4) : 0 < 5 ^ r ∧ 5 ^ r ≤ 625 := by
  have h1 : 5 ^ r ≤ 5 ^ 4 := Nat.pow_le_pow_right (by omega) h
  have h2 : 5 ^ 4 = 625 := by decide
  exact ⟨Nat.pow_pos (by omega), by omega⟩
theorem iN_remL {a : Nat} (ha : a < 2147483648) : iN a - iN a / 5 * 5 = iN (a % 5) := iN_rem (b := 5) ha (by omega)
theorem iN_divL {a : Nat} (ha : a < 2147483648) : iN a / 5 = iN (a / 5) := iN_div (b := 5) ha (by omega)
theorem cpy_hi {w v old : Nat → Int32} (h : ∀ i, 124 ≤ i → v i = old i) : va_cpy w v 0 0 124 = va_cpy w old 0 0 124 := by
  funext i
  by_cases hi : i < 124
  · rw [cpy_in (by omega), cpy_in (by omega)]
  · rw [cpy_off (by omega), cpy_off (by omega), h i (by omega)]
theorem toS_hit {w : Nat → Int32} {pg L code : Nat} (hL : L ≤ 4) (h1 : ∀ l, l < L → ∀ c, c < 5 ^ l → ¬ okS pg w (dgs l c)) (h2 : ∀ c, c < code → ¬ okS pg w (dgs L c)) (hc : code < 5 ^ L) (h : okS pg w (dgs L code)) : toS w pg = some (dgs L code) := by
  refine fstN_some (e := L) 5 0 (by omega) (by omega) (fun l _ hl => ?_) ?_
  · rcases srch_code pg l w with ⟨c, a, _, b, _⟩ | ⟨a, _⟩
    · exact absurd b (h1 l hl c a)
    · exact a
  · rcases srch_code pg L w with ⟨c, a, e, b, mn⟩ | ⟨_, b⟩
    · have : c = code := by
        rcases Nat.lt_trichotomy c code with q | q | q
        · exact absurd b (h2 c q)
        · exact q
        · exact absurd h (mn code q)
      show srch pg L w = _
      rw [e, this]
    · exact absurd h (b code hc)
theorem toS_miss {w : Nat → Int32} {pg : Nat} (h1 : ∀ l, l < 5 → ∀ c, c < 5 ^ l → ¬ okS pg w (dgs l c)) : toS w pg = none := by
  refine fstN_none 5 0 (fun l _ hl => ?_)
  rcases srch_code pg l w with ⟨c, a, _, b, _⟩ | ⟨a, _⟩
  · exact absurd b (h1 l (by omega) c a)
  · exact a
