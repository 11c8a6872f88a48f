/-! the class's tabs and webs, and how they stand to the reference's row -/
def TabG (S : pmS) (P : pmP) (t : Nat) : Prop := OB S t 7 ∧ P t 0 = some (t + 1) ∧ AR S (t + 1) 11 6
def TR (I : pmI) (t : Nat) (w : Nat → Int32) (k : Nat) : Prop := I t 1 = w k ∧ I t 2 = w (k + 1) ∧ I t 3 = w (k + 2) ∧ I t 4 = w (k + 3) ∧ ∀ j : Nat, (j : Int) < (w (k + 2)).toInt → I (t + 1) j = w (k + 4 + j)
/-- only the tab t has changed -/
def Fr2 (I I' : pmI) (t : Nat) : Prop := ∀ k, k ≠ t → k ≠ t + 1 → I' k = I k
theorem TR.congr {I I' : pmI} {t k : Nat} {w : Nat → Int32} (h : TR I t w k) (e1 : I' t = I t) (e2 : I' (t + 1) = I (t + 1)) : TR I' t w k := by
  unfold TR at h ⊢
  rw [e1, e2]; exact h
theorem TR.congrW {I : pmI} {t k k' : Nat} {w w' : Nat → Int32} (h : TR I t w k) (e : ∀ i, i < 10 → w' (k' + i) = w (k + i)) (hl : (w (k + 2)).toInt ≤ 6) : TR I t w' k' := by
  obtain ⟨h1, h2, h3, h4, h5⟩ := h
  have e0 := e 0 (by omega)
  simp only [Nat.add_zero] at e0
  refine ⟨by rw [e0]; exact h1, by rw [e 1 (by omega)]; exact h2, by rw [e 2 (by omega)]; exact h3, by rw [e 3 (by omega)]; exact h4, fun j hj => ?_⟩
  rw [e 2 (by omega)] at hj
  rw [Nat.add_assoc, e (4 + j) (by omega), ← Nat.add_assoc]
  exact h5 j hj
theorem TR.fresh {I : pmI} {t k : Nat} {w : Nat → Int32} {sort page : Int32} (h1 : I t 1 = sort) (h2 : I t 2 = page) (h3 : I t 3 = 1) (h4 : I t 4 = 0) (h5 : I (t + 1) 0 = page) : TR I t (freshF w k sort page) k := by
  refine ⟨?_, ?_, ?_, ?_, fun j hj => ?_⟩
  · simp (disch := omega) only [freshF, va_ne', va_at']; exact h1
  · simp (disch := omega) only [freshF, va_ne', va_at']; exact h2
  · simp (disch := omega) only [freshF, va_ne', va_at']; exact h3
  · simp (disch := omega) only [freshF, va_ne', va_at']; exact h4
  · have e : freshF w k sort page (k + 2) = 1 := by simp (disch := omega) only [freshF, va_ne', va_at']
    rw [e] at hj
    simp only [Int32.reduceToInt] at hj
    obtain rfl : j = 0 := by omega
    simp (disch := omega) only [freshF, va_ne', va_at']; exact h5
theorem TR.shift {I I' : pmI} {t τ s l : Nat} {w : Nat → Int32} {page : Int32} (h : TR I t w (44 + 10 * τ)) (hl : (w (46 + 10 * τ)).toInt = (l : Int)) (hsl : s < l) (hl6 : l ≤ 6) (hgt : s + 2 > mostF w τ) (hne : ¬ w (44 + 10 * τ) = 5) (e1 : I' t 1 = I t 1) (e2 : I' t 2 = I t 2) (e3 : I' t 3 = iN (s + 1)) (e4 : I' t 4 = iN s) (e5 : ∀ j, j < s → I' (t + 1) j = I (t + 1) (j + 1)) (e6 : I' (t + 1) s = page) : TR I' t (comesF w τ s page) (44 + 10 * τ) := by
  obtain ⟨h1, h2, h3, h4, h5⟩ := h
  unfold comesF
  rw [if_pos hgt, if_neg hne]
  refine ⟨?_, ?_, ?_, ?_, fun j hj => ?_⟩
  · simp (disch := omega) only [va_ne', cpy_off]; rw [e1]; exact h1
  · simp (disch := omega) only [va_ne', cpy_off]; rw [e2]; exact h2
  · simp (disch := omega) only [va_ne', va_at']; exact e3
  · simp (disch := omega) only [va_ne', va_at']; exact e4
  · rw [va_at' (by omega), iN_ti (by omega)] at hj
    by_cases hjs : j = s
    · subst hjs
      simp (disch := omega) only [va_ne', va_at']; exact e6
    · simp (disch := omega) only [va_ne', cpy_in]
      rw [e5 j (by omega), h5 (j + 1) (by rw [show 44 + 10 * τ + 2 = 46 + 10 * τ by omega, hl]; omega)]
      congr 1; omega
theorem TR.push {I I' : pmI} {t τ s l : Nat} {w : Nat → Int32} {page : Int32} (h : TR I t w (44 + 10 * τ)) (hl : (w (46 + 10 * τ)).toInt = (l : Int)) (hsl : s < l) (hl6 : l ≤ 6) (hgt : ¬ s + 2 > mostF w τ) (e1 : I' t 1 = I t 1) (e2 : I' t 2 = I t 2) (e3 : I' t 3 = iN (s + 2)) (e4 : I' t 4 = iN (s + 1)) (e5 : ∀ j, j < s + 1 → I' (t + 1) j = I (t + 1) j) (e6 : I' (t + 1) (s + 1) = page) : TR I' t (comesF w τ s page) (44 + 10 * τ) := by
  obtain ⟨h1, h2, h3, h4, h5⟩ := h
  have := mostF_le w τ
  unfold comesF
  rw [if_neg hgt]
  refine ⟨?_, ?_, ?_, ?_, fun j hj => ?_⟩
  · simp (disch := omega) only [va_ne']; rw [e1]; exact h1
  · simp (disch := omega) only [va_ne']; rw [e2]; exact h2
  · simp (disch := omega) only [va_ne', va_at']; exact e3
  · simp (disch := omega) only [va_ne', va_at']; exact e4
  · rw [va_at' (by omega), iN_ti (by omega)] at hj
    by_cases hjs : j = s + 1
    · subst hjs
      simp (disch := omega) only [va_ne', va_at']; exact e6
    · simp (disch := omega) only [va_ne']
      rw [e5 j (by omega), h5 j (by rw [show 44 + 10 * τ + 2 = 46 + 10 * τ by omega, hl]; omega)]
theorem TR.home {I I' : pmI} {t τ s : Nat} {w : Nat → Int32} {page : Int32} (h : TR I t w (44 + 10 * τ)) (hgt : s + 2 > mostF w τ) (he : w (44 + 10 * τ) = 5) (e1 : I' t 1 = I t 1) (e2 : I' t 2 = I t 2) (e3 : I' t 3 = 1) (e4 : I' t 4 = 0) (e5 : I' (t + 1) 0 = I t 2) : TR I' t (comesF w τ s page) (44 + 10 * τ) := by
  unfold comesF
  rw [if_pos hgt, if_pos he]
  have h2 : I t 2 = w (45 + 10 * τ) := by rw [h.2.1]; congr 1; omega
  exact TR.fresh (by rw [e1, h.1, he]) (by rw [e2, h2]) e3 e4 (by rw [e5, h2])
theorem goes_off {w : Nat → Int32} {t i : Nat} {way : Int32} (h : i ≠ 47 + 10 * t) : goesF w t way i = w i := va_ne' h
theorem goes_0 {w : Nat → Int32} {t i : Nat} (h : i = 47 + 10 * t) : goesF w t 0 i = w (47 + 10 * t) - 1 := by
  unfold goesF; rw [va_at' h, if_pos rfl]; exact (Int32.sub_eq_add_neg ..).symm
theorem goes_1 {w : Nat → Int32} {t i : Nat} (h : i = 47 + 10 * t) : goesF w t 1 i = w (47 + 10 * t) + 1 := by
  unfold goesF; rw [va_at' h, if_neg (by decide)]
theorem TR.goes {I : pmI} {tt τ : Nat} {w : Nat → Int32} {way x : Int32} (h : TR I tt w (44 + 10 * τ)) (hx : goesF w τ way (47 + 10 * τ) = x) : TR (va_up I tt (va_up (I tt) 4 x)) tt (goesF w τ way) (44 + 10 * τ) := by
  obtain ⟨h1, h2, h3, h4, h5⟩ := h
  refine ⟨?_, ?_, ?_, ?_, fun j hj => ?_⟩
  · rw [va_at' rfl, va_ne' (by omega), goes_off (by omega)]; exact h1
  · rw [va_at' rfl, va_ne' (by omega), goes_off (by omega)]; exact h2
  · rw [va_at' rfl, va_ne' (by omega), goes_off (by omega)]; exact h3
  · rw [va_at' rfl, va_at' rfl, show 44 + 10 * τ + 3 = 47 + 10 * τ by omega]; exact hx.symm
  · rw [goes_off (by omega)] at hj
    rw [va_ne' (by omega), goes_off (by omega)]; exact h5 j hj
