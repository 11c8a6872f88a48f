/-! what a row of 124 numbers is that tells a web with its tabs -/
theorem va_at' {α : Type} {f : Nat → α} {k j : Nat} {v : α} (h : j = k) : va_up f k v j = v := by subst h; exact va_up_self f j v
theorem va_ne' {α : Type} {f : Nat → α} {k j : Nat} {v : α} (h : j ≠ k) : va_up f k v j = f j := va_up_ne f v h
def TV (w : Nat → Int32) (k n : Nat) : Prop := ∃ kd h l s : Nat, (w k).toInt = (kd : Int) ∧ 1 ≤ kd ∧ kd ≤ 5 ∧ (w (k + 1)).toInt = (h : Int) ∧ h < n ∧ (w (k + 2)).toInt = (l : Int) ∧ 1 ≤ l ∧ l ≤ 6 ∧ (w (k + 3)).toInt = (s : Int) ∧ s < l ∧ ∀ j, j < l → ∃ q : Nat, (w (k + 4 + j)).toInt = (q : Int) ∧ q < n
def VL (w : Nat → Int32) (n : Nat) : Prop := ∀ p, p < n → ∃ c : Nat, (w (4 + 5 * p)).toInt = (c : Int) ∧ 1 ≤ c ∧ c ≤ 3 ∧ ∀ j, j < c → ∃ q : Nat, (w (5 + 5 * p + j)).toInt = (q : Int) ∧ q < n
def VV (w : Nat → Int32) (n : Nat) : Prop := ∀ p, p < 8 → ∃ v : Nat, (w (8 + 5 * p)).toInt = (v : Int) ∧ v ≤ 999 ∧ (n ≤ p → v = 0)
def Vd (w : Nat → Int32) (n T t c : Nat) : Prop := ((w 0).toInt = (n : Int) ∧ 2 ≤ n ∧ n ≤ 8) ∧ ((w 1).toInt = (T : Int) ∧ 1 ≤ T ∧ T ≤ 5) ∧ ((w 2).toInt = (t : Int) ∧ t < T) ∧ ((w 3).toInt = (c : Int) ∧ c ≤ 3) ∧ VL w n ∧ (∀ i, i < T → TV w (44 + 10 * i) n) ∧ (∀ i, i < c → TV w (94 + 10 * i) n) ∧ VV w n
theorem TV.congr {w w' : Nat → Int32} {k k' n : Nat} (h : TV w k n) (e : ∀ i, i < 10 → w' (k' + i) = w (k + i)) : TV w' k' n := by
  obtain ⟨kd, ho, l, s, h1, h2, h3, h4, h5, h6, h7, h8, h9, h10, h11⟩ := h
  refine ⟨kd, ho, l, s, ?_, h2, h3, ?_, h5, ?_, h7, h8, ?_, h10, fun j hj => ?_⟩
  · have := e 0 (by omega); simp only [Nat.add_zero] at this; rw [this]; exact h1
  · rw [e 1 (by omega)]; exact h4
  · rw [e 2 (by omega)]; exact h6
  · rw [e 3 (by omega)]; exact h9
  · rw [Nat.add_assoc, e (4 + j) (by omega), ← Nat.add_assoc]; exact h11 j hj
theorem VL.congr {w w' : Nat → Int32} {n : Nat} (h : VL w n) (hn : n ≤ 8) (e : ∀ p j, p < 8 → j < 4 → w' (4 + 5 * p + j) = w (4 + 5 * p + j)) : VL w' n := by
  intro p hp
  obtain ⟨c, h1, h2, h3, h4⟩ := h p hp
  refine ⟨c, ?_, h2, h3, fun j hj => ?_⟩
  · have := e p 0 (by omega) (by omega); simp only [Nat.add_zero] at this; rw [this]; exact h1
  · rw [show 5 + 5 * p + j = 4 + 5 * p + (1 + j) by omega, e p (1 + j) (by omega) (by omega), show 4 + 5 * p + (1 + j) = 5 + 5 * p + j by omega]; exact h4 j hj
theorem VV.congr {w w' : Nat → Int32} {n : Nat} (h : VV w n) (e : ∀ p, p < 8 → w' (8 + 5 * p) = w (8 + 5 * p)) : VV w' n := by
  intro p hp
  rw [e p hp]
  exact h p hp
theorem Vd.nw {w : Nat → Int32} {n T t c : Nat} (h : Vd w n T t c) : ∃ s p, Nw w t s p ∧ p < n := by
  obtain ⟨⟨_, _, hn8⟩, ⟨_, _, hT5⟩, ⟨h2, ht⟩, _, _, htv, _⟩ := h
  obtain ⟨kd, ho, l, s, _, _, _, _, _, _, _, hl6, hs, hsl, htr⟩ := htv t ht
  obtain ⟨q, hq, hqn⟩ := htr s hsl
  rw [show 44 + 10 * t + 3 = 47 + 10 * t by omega] at hs
  rw [show 44 + 10 * t + 4 + s = 48 + 10 * t + s by omega] at hq
  exact ⟨s, q, ⟨h2, by omega, hs, by omega, hq, by omega⟩, hqn⟩
/-- one visit more -/
theorem Vd.vis {w : Nat → Int32} {n T t c p : Nat} (h : Vd w n T t c) (hp : p < n) : Vd (visF w p) n T t c := by
  obtain ⟨⟨h0, hn2, hn8⟩, ⟨h1, hT1, hT5⟩, ⟨h2, ht⟩, ⟨h3, hc⟩, hl, htv, hcv, hv⟩ := h
  have off : ∀ i, i ≠ 8 + 5 * p → visF w p i = w i := fun i hi => va_ne' hi
  refine ⟨⟨by rw [off _ (by omega)]; exact h0, hn2, hn8⟩, ⟨by rw [off _ (by omega)]; exact h1, hT1, hT5⟩, ⟨by rw [off _ (by omega)]; exact h2, ht⟩, ⟨by rw [off _ (by omega)]; exact h3, hc⟩, hl.congr hn8 (fun q j _ _ => off _ (by omega)), fun i hi => (htv i hi).congr (fun j _ => off _ (by omega)), fun i hi => (hcv i hi).congr (fun j _ => off _ (by omega)), fun q hq => ?_⟩
  obtain ⟨v, e1, e2, e3⟩ := hv q hq
  by_cases hqp : q = p
  · subst hqp
    have e : visF w q (8 + 5 * q) = w (8 + 5 * q) + (if w (8 + 5 * q) < 999 then 1 else 0) := va_at' rfl
    rw [e, iN_of e1]
    by_cases hlt : iN v < 999
    · rw [if_pos hlt]
      rw [iN_lit, iN_lt (by omega) (by omega)] at hlt
      exact ⟨v + 1, by rw [iN_lit, iN_add]; exact iN_ti (by omega), by omega, fun z => absurd z (by omega)⟩
    · rw [if_neg hlt]
      exact ⟨v, by rw [Int32.add_zero]; exact iN_ti (by omega), e2, e3⟩
  · rw [off _ (by omega)]
    exact ⟨v, e1, e2, e3⟩
/-- only the tab now changes -/
theorem Vd.tab {w w' : Nat → Int32} {n T t c : Nat} (h : Vd w n T t c) (off : ∀ i, i < 44 + 10 * t ∨ 54 + 10 * t ≤ i → w' i = w i) (hn : TV w' (44 + 10 * t) n) : Vd w' n T t c := by
  obtain ⟨⟨h0, hn2, hn8⟩, ⟨h1, hT1, hT5⟩, ⟨h2, ht⟩, ⟨h3, hc⟩, hl, htv, hcv, hv⟩ := h
  refine ⟨⟨by rw [off _ (by omega)]; exact h0, hn2, hn8⟩, ⟨by rw [off _ (by omega)]; exact h1, hT1, hT5⟩, ⟨by rw [off _ (by omega)]; exact h2, ht⟩, ⟨by rw [off _ (by omega)]; exact h3, hc⟩, hl.congr hn8 (fun q j _ _ => off _ (by omega)), fun i hi => ?_, fun i hi => (hcv i hi).congr (fun j _ => off _ (by omega)), hv.congr (fun q _ => off _ (by omega))⟩
  by_cases hit : i = t
  · subst hit; exact hn
  · exact (htv i hi).congr (fun j _ => off _ (by omega))
theorem comes_off {w : Nat → Int32} {t s i : Nat} {page : Int32} (hs : s < 6) (hi : i < 44 + 10 * t ∨ 54 + 10 * t ≤ i) : comesF w t s page i = w i := by
  unfold comesF
  split
  · split
    · exact freshF_off (by omega)
    · simp (disch := omega) only [va_ne', cpy_off]
  · next hle =>
    have := mostF_le w t
    simp (disch := omega) only [va_ne']
theorem fresh_TV {w : Nat → Int32} {k n kd p : Nat} {kind page : Int32} (h1 : kind.toInt = (kd : Int)) (h2 : 1 ≤ kd) (h3 : kd ≤ 5) (h4 : page.toInt = (p : Int)) (h5 : p < n) : TV (freshF w k kind page) k n := by
  refine ⟨kd, p, 1, 0, ?_, h2, h3, ?_, h5, ?_, by omega, by omega, ?_, by omega, fun j hj => ⟨p, ?_, h5⟩⟩
  · simp (disch := omega) only [freshF, va_ne', va_at']; exact h1
  · simp (disch := omega) only [freshF, va_ne', va_at']; exact h4
  · simp (disch := omega) only [freshF, va_ne', va_at']; rfl
  · simp (disch := omega) only [freshF, va_ne', va_at']; rfl
  · obtain rfl : j = 0 := by omega
    simp (disch := omega) only [freshF, va_ne', va_at']; exact h4
theorem Vd.comes {w : Nat → Int32} {n T t c s q : Nat} {page : Int32} (h : Vd w n T t c) (hs : (w (47 + 10 * t)).toInt = (s : Int)) (hq : page.toInt = (q : Int)) (hqn : q < n) : Vd (comesF w t s page) n T t c := by
  obtain ⟨kd, ho, l, s', h1, h2, h3, h4, h5, h6, h7, h8, h9, h10, h11⟩ := h.2.2.2.2.2.1 t h.2.2.1.2
  obtain rfl : s = s' := by rw [show 44 + 10 * t + 3 = 47 + 10 * t by omega] at h9; omega
  refine h.tab (fun i hi => comes_off (by omega) hi) ?_
  unfold comesF
  split
  · next hgt =>
    split
    · exact fresh_TV (kd := 5) rfl (by omega) (by omega) (by rw [show 45 + 10 * t = 44 + 10 * t + 1 by omega]; exact h4) h5
    · refine ⟨kd, ho, s + 1, s, ?_, h2, h3, ?_, h5, ?_, by omega, by omega, ?_, by omega, fun j hj => ?_⟩
      · simp (disch := omega) only [va_ne', cpy_off]; exact h1
      · simp (disch := omega) only [va_ne', cpy_off]; exact h4
      · simp (disch := omega) only [va_ne', va_at', cpy_off]; exact iN_ti (by omega)
      · simp (disch := omega) only [va_ne', va_at', cpy_off]; exact iN_ti (by omega)
      · by_cases hj2 : j = s
        · subst hj2
          simp (disch := omega) only [va_ne', va_at']; exact ⟨q, hq, hqn⟩
        · simp (disch := omega) only [va_ne', cpy_in]
          rw [show 49 + 10 * t + (44 + 10 * t + 4 + j - (48 + 10 * t)) = 44 + 10 * t + 4 + (j + 1) by omega]
          exact h11 (j + 1) (by omega)
  · next hle =>
    have := mostF_le w t
    refine ⟨kd, ho, s + 2, s + 1, ?_, h2, h3, ?_, h5, ?_, by omega, by omega, ?_, by omega, fun j hj => ?_⟩
    · simp (disch := omega) only [va_ne']; exact h1
    · simp (disch := omega) only [va_ne']; exact h4
    · simp (disch := omega) only [va_ne', va_at']; exact iN_ti (by omega)
    · simp (disch := omega) only [va_ne', va_at']; exact iN_ti (by omega)
    · by_cases hj2 : j = s + 1
      · subst hj2
        simp (disch := omega) only [va_ne', va_at']; exact ⟨q, hq, hqn⟩
      · simp (disch := omega) only [va_ne']
        exact h11 j (by omega)
