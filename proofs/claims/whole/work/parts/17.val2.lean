/-! the acts keep a web well told -/
theorem ins_at {w : Nat → Int32} {T q i : Nat} {place page : Int32} (h : i ≠ 1 ∧ i ≠ 2) (h2 : i < 44 + 10 * q ∨ 54 + 10 * T ≤ i) : q ≤ T → insF w T q place page i = w i := by
  intro hq
  unfold insF
  rw [va_ne' (by omega), va_ne' (by omega), freshF_off (by omega), cpy_off (by omega)]
theorem ins_mv {w : Nat → Int32} {T q i : Nat} {place page : Int32} (hq : q ≤ T) (h2 : 54 + 10 * q ≤ i ∧ i < 54 + 10 * T) : insF w T q place page i = w (i - 10) := by
  unfold insF
  rw [va_ne' (by omega), va_ne' (by omega), freshF_off (by omega), cpy_in (by omega)]
  congr 1; omega
theorem ins_new {w : Nat → Int32} {T q n p : Nat} {place page : Int32} (hp : page.toInt = (p : Int)) (hpn : p < n) : TV (insF w T q place page) (44 + 10 * q) n := by
  refine (fresh_TV (w := va_cpy w w (44 + 10 * q) (54 + 10 * q) (10 * (T - q))) (k := 44 + 10 * q) (kd := 1) (kind := 1) rfl (by omega) (by omega) hp hpn).congr (fun i hi => ?_)
  unfold insF
  rw [va_ne' (by omega), va_ne' (by omega)]
theorem Vd.ins {w : Nat → Int32} {n T t c q p : Nat} {place page : Int32} (h : Vd w n T t c) (hT : T < 5) (hpl : place.toInt = (q : Int)) (hq : q ≤ T) (hp : page.toInt = (p : Int)) (hpn : p < n) : Vd (insF w T q place page) n (T + 1) q c := by
  obtain ⟨⟨h0, hn2, hn8⟩, ⟨h1, hT1, hT5⟩, ⟨h2, ht⟩, ⟨h3, hc⟩, hl, htv, hcv, hv⟩ := h
  have off : ∀ i, i ≠ 1 ∧ i ≠ 2 → i < 44 + 10 * q ∨ 54 + 10 * T ≤ i → insF w T q place page i = w i := fun i a b => ins_at a b hq
  refine ⟨⟨by rw [off _ (by omega) (by omega)]; exact h0, hn2, hn8⟩, ⟨?_, by omega, by omega⟩, ⟨?_, by omega⟩, ⟨by rw [off _ (by omega) (by omega)]; exact h3, hc⟩, hl.congr hn8 (fun q j _ _ => off _ (by omega) (by omega)), fun i hi => ?_, fun i hi => (hcv i hi).congr (fun j _ => off _ (by omega) (by omega)), hv.congr (fun q _ => off _ (by omega) (by omega))⟩
  · unfold insF
    rw [va_ne' (by omega), va_at' rfl, iN_of h1, iN_lit, iN_add]
    exact iN_ti (by omega)
  · unfold insF
    rw [va_at' rfl]
    exact hpl
  · by_cases h1 : i < q
    · exact (htv i (by omega)).congr (fun j hj => off _ (by omega) (by omega))
    · by_cases h2 : i = q
      · subst h2
        exact ins_new hp hpn
      · refine (htv (i - 1) (by omega)).congr (fun j hj => ?_)
        rw [ins_mv hq (by omega)]
        congr 1; omega
theorem Vd.goes {w : Nat → Int32} {n T t c s l : Nat} {way : Int32} (h : Vd w n T t c) (hs : (w (47 + 10 * t)).toInt = (s : Int)) (hl : (w (46 + 10 * t)).toInt = (l : Int)) (hw : if way = 0 then 0 < s else s + 1 < l) : Vd (goesF w t way) n T t c := by
  obtain ⟨kd, ho, l', s', h1, h2, h3, h4, h5, h6, h7, h8, h9, h10, h11⟩ := h.2.2.2.2.2.1 t h.2.2.1.2
  obtain rfl : s = s' := by rw [show 44 + 10 * t + 3 = 47 + 10 * t by omega] at h9; omega
  obtain rfl : l = l' := by rw [show 44 + 10 * t + 2 = 46 + 10 * t by omega] at h6; omega
  refine h.tab (fun i hi => by unfold goesF; exact va_ne' (by omega)) ?_
  have hv : ∃ s2 : Nat, s2 < l ∧ (w (47 + 10 * t) + (if way = 0 then -1 else 1)).toInt = (s2 : Int) := by
    rw [iN_of hs]
    by_cases h0 : way = 0
    · rw [if_pos h0] at hw ⊢
      exact ⟨s - 1, by omega, by rw [show (-1 : Int32) = -iN 1 from rfl, iN_an, iN_sub (by omega)]; exact iN_ti (by omega)⟩
    · rw [if_neg h0] at hw ⊢
      exact ⟨s + 1, by omega, by rw [iN_lit, iN_add]; exact iN_ti (by omega)⟩
  obtain ⟨s2, hs2, e⟩ := hv
  unfold goesF
  refine ⟨kd, ho, l, s2, ?_, h2, h3, ?_, h5, ?_, h7, h8, ?_, hs2, fun j hj => ?_⟩
  · rw [va_ne' (by omega)]; exact h1
  · rw [va_ne' (by omega)]; exact h4
  · rw [va_ne' (by omega)]; exact h6
  · rw [va_at' (by omega)]; exact e
  · rw [va_ne' (by omega)]; exact h11 j hj
theorem Vd.sel {w : Nat → Int32} {n T t c q : Nat} {x : Int32} (h : Vd w n T t c) (hx : x.toInt = (q : Int)) (hq : q < T) : Vd (va_up w 2 x) n T q c := by
  obtain ⟨⟨h0, hn2, hn8⟩, ⟨h1, hT1, hT5⟩, ⟨h2, ht⟩, ⟨h3, hc⟩, hl, htv, hcv, hv⟩ := h
  refine ⟨⟨by rw [va_ne' (by omega)]; exact h0, hn2, hn8⟩, ⟨by rw [va_ne' (by omega)]; exact h1, hT1, hT5⟩, ⟨by rw [va_at' rfl]; exact hx, hq⟩, ⟨by rw [va_ne' (by omega)]; exact h3, hc⟩, hl.congr hn8 (fun q j _ _ => va_ne' (by omega)), fun i hi => (htv i hi).congr (fun j _ => va_ne' (by omega)), fun i hi => (hcv i hi).congr (fun j _ => va_ne' (by omega)), hv.congr (fun q _ => va_ne' (by omega))⟩
def keepC (w : Nat → Int32) (t c : Nat) : Nat := if w (44 + 10 * t) < 4 then (if c = 3 then 3 else c + 1) else c
theorem keep_off {w : Nat → Int32} {t c i : Nat} (hi : i ≠ 3) (h94 : i < 94) : keepF w t c i = w i := by
  unfold keepF
  split
  · split
    · simp (disch := omega) only [va_ne', cpy_off]
    · simp (disch := omega) only [va_ne', cpy_off]
  · rfl
theorem keep_TV {w : Nat → Int32} {n T t c : Nat} (h : Vd w n T t c) : (keepF w t c 3).toInt = (keepC w t c : Int) ∧ keepC w t c ≤ 3 ∧ ∀ i, i < keepC w t c → TV (keepF w t c) (94 + 10 * i) n := by
  obtain ⟨⟨h0, hn2, hn8⟩, ⟨h1, hT1, hT5⟩, ⟨h2, ht⟩, ⟨h3, hc⟩, hl, htv, hcv, hv⟩ := h
  unfold keepF keepC
  split
  · split
    · next h3 =>
      subst h3
      refine ⟨by rw [va_at' rfl]; rfl, by omega, fun i hi => ?_⟩
      by_cases hi2 : i = 2
      · subst hi2
        refine (htv t ht).congr (fun j hj => ?_)
        simp (disch := omega) only [va_ne', cpy_off, cpy_in]
        congr 1; omega
      · by_cases hi1 : i = 1
        · subst hi1
          refine (hcv 2 (by omega)).congr (fun j hj => ?_)
          simp (disch := omega) only [va_ne', cpy_off, cpy_in]
          congr 1; omega
        · obtain rfl : i = 0 := by omega
          refine (hcv 1 (by omega)).congr (fun j hj => ?_)
          simp (disch := omega) only [va_ne', cpy_off, cpy_in]
          congr 1; omega
    · refine ⟨by rw [va_at' rfl]; exact iN_ti (by omega), by omega, fun i hi => ?_⟩
      by_cases hic : i = c
      · subst hic
        refine (htv t ht).congr (fun j hj => ?_)
        simp (disch := omega) only [va_ne', cpy_in]
        congr 1; omega
      · refine (hcv i (by omega)).congr (fun j hj => ?_)
        simp (disch := omega) only [va_ne', cpy_off]
  · exact ⟨h3, hc, hcv⟩
theorem closes_off {w : Nat → Int32} {T t c i : Nat} (hi : i ≠ 1 ∧ i ≠ 2) (h : i < 44 + 10 * t ∨ 34 + 10 * T ≤ i) (ht : t < T) : closesF w T t c i = keepF w t c i := by
  unfold closesF
  rw [va_ne' (by omega), cpy_off (by omega), va_ne' (by omega)]
theorem closes_mv {w : Nat → Int32} {T t c i : Nat} (h : 44 + 10 * t ≤ i ∧ i < 34 + 10 * T) (hT : T ≤ 5) : closesF w T t c i = w (i + 10) := by
  unfold closesF
  rw [va_ne' (by omega), cpy_in (by omega), va_ne' (by omega), keep_off (by omega) (by omega)]
  congr 1; omega
theorem Vd.closes {w : Nat → Int32} {n T t c : Nat} (h : Vd w n T t c) (hT : 2 ≤ T) : Vd (closesF w T t c) n (T - 1) (if t < T - 1 then t else T - 2) (keepC w t c) := by
  obtain ⟨k1, k2, k3⟩ := keep_TV h
  obtain ⟨⟨h0, hn2, hn8⟩, ⟨h1, hT1, hT5⟩, ⟨h2, ht⟩, ⟨h3, hc⟩, hl, htv, hcv, hv⟩ := h
  have off : ∀ i, i ≠ 1 ∧ i ≠ 2 → i ≠ 3 → i < 44 → closesF w T t c i = w i := fun i a b d => by rw [closes_off a (by omega) ht, keep_off b (by omega)]
  refine ⟨⟨by rw [off _ (by omega) (by omega) (by omega)]; exact h0, hn2, hn8⟩, ⟨?_, by omega, by omega⟩, ⟨?_, by split <;> omega⟩, ⟨by rw [closes_off (by omega) (by omega) ht]; exact k1, k2⟩, hl.congr hn8 (fun q j _ _ => off _ (by omega) (by omega) (by omega)), fun i hi => ?_, fun i hi => (k3 i hi).congr (fun j _ => closes_off (by omega) (by omega) ht), hv.congr (fun q _ => off _ (by omega) (by omega) (by omega))⟩
  · unfold closesF
    rw [va_ne' (by omega), cpy_off (by omega), va_at' rfl]
    exact iN_ti (by omega)
  · unfold closesF
    rw [va_at' rfl]
    split
    · exact iN_ti (by omega)
    · exact iN_ti (by omega)
  · by_cases h1 : i < t
    · refine (htv i (by omega)).congr (fun j hj => ?_)
      rw [closes_off (by omega) (by omega) ht, keep_off (by omega) (by omega)]
    · refine (htv (i + 1) (by omega)).congr (fun j hj => ?_)
      rw [closes_mv (by omega) hT5]
      congr 1; omega
/-- what again does to a web -/
def againF (w : Nat → Int32) (T c : Nat) : Nat → Int32 :=
  va_up (va_up (va_cpy (va_up w 3 (iN (c - 1))) (va_up w 3 (iN (c - 1))) (94 + 10 * (c - 1)) (44 + 10 * T) 10) 2 (iN T)) 1 (iN (T + 1))
theorem again_off {w : Nat → Int32} {T c i : Nat} (h : i ≠ 1 ∧ i ≠ 2 ∧ i ≠ 3) (h2 : i < 44 + 10 * T ∨ 54 + 10 * T ≤ i) : againF w T c i = w i := by
  unfold againF
  rw [va_ne' (by omega), va_ne' (by omega), cpy_off (by omega), va_ne' (by omega)]
theorem Vd.again {w : Nat → Int32} {n T t c : Nat} (h : Vd w n T t c) (hT : T < 5) (hc1 : 1 ≤ c) : Vd (againF w T c) n (T + 1) T (c - 1) := by
  obtain ⟨⟨h0, hn2, hn8⟩, ⟨h1, hT1, hT5⟩, ⟨h2, ht⟩, ⟨h3, hc⟩, hl, htv, hcv, hv⟩ := h
  refine ⟨⟨by rw [again_off (by omega) (by omega)]; exact h0, hn2, hn8⟩, ⟨by unfold againF; rw [va_at' rfl]; exact iN_ti (by omega), by omega, by omega⟩, ⟨by unfold againF; rw [va_ne' (by omega), va_at' rfl]; exact iN_ti (by omega), by omega⟩, ⟨by unfold againF; rw [va_ne' (by omega), va_ne' (by omega), cpy_off (by omega), va_at' rfl]; exact iN_ti (by omega), by omega⟩, hl.congr hn8 (fun q j _ _ => again_off (by omega) (by omega)), fun i hi => ?_, fun i hi => (hcv i (by omega)).congr (fun j _ => again_off (by omega) (by omega)), hv.congr (fun q _ => again_off (by omega) (by omega))⟩
  by_cases h1 : i < T
  · exact (htv i h1).congr (fun j _ => again_off (by omega) (by omega))
  · obtain rfl : i = T := by omega
    refine (hcv (c - 1) (by omega)).congr (fun j hj => ?_)
    unfold againF
    rw [va_ne' (by omega), va_ne' (by omega), cpy_in (by omega), va_ne' (by omega)]
    congr 1; omega
