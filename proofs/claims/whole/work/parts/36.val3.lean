theorem Vd.goB {w : Nat → Int32} {n T t c : Nat} (h : Vd w n T t c) (hm : ¬ w (44 + 10 * t) = 5 ∧ 0 < w (47 + 10 * t)) : Vd (goesF w t 0) n T t c := by
  obtain ⟨kd, ho, l, s, u1, u2, u3, u4, u5, u6, u7, u8, u9, u10, u11⟩ := h.2.2.2.2.2.1 t h.2.2.1.2
  rw [show 44 + 10 * t + 3 = 47 + 10 * t by omega] at u9
  rw [show 44 + 10 * t + 2 = 46 + 10 * t by omega] at u6
  refine h.goes u9 u6 ?_
  rw [if_pos rfl]
  have := hm.2
  simp only [ti_lt, Int32.reduceToInt, u9] at this
  omega
theorem Vd.goF {w : Nat → Int32} {n T t c : Nat} (h : Vd w n T t c) (hm : ¬ w (44 + 10 * t) = 5 ∧ w (47 + 10 * t) + 1 < w (46 + 10 * t)) : Vd (goesF w t 1) n T t c := by
  obtain ⟨kd, ho, l, s, u1, u2, u3, u4, u5, u6, u7, u8, u9, u10, u11⟩ := h.2.2.2.2.2.1 t h.2.2.1.2
  rw [show 44 + 10 * t + 3 = 47 + 10 * t by omega] at u9
  rw [show 44 + 10 * t + 2 = 46 + 10 * t by omega] at u6
  refine h.goes u9 u6 ?_
  rw [if_neg (by decide)]
  have := hm.2
  rw [iN_of u9, iN_of u6, iN_lit, iN_add, iN_lt (by omega) (by omega)] at this
  exact this
