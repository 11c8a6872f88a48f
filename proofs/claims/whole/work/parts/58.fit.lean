/-! what fits what was shown -/
noncomputable def stF (w : Nat → Int32) : Nat → Int32 := @ite _ (mayP w 2) (Classical.propDecidable _) (doP w 2) w
theorem stF_y {w : Nat → Int32} (h : mayP w 2) : stF w = doP w 2 := by unfold stF; rw [if_pos h]
theorem stF_n {w : Nat → Int32} (h : ¬ mayP w 2) : stF w = w := by unfold stF; rw [if_neg h]
def fitL (tl : Nat → Int32) : Nat → Nat → (Nat → Int32) → Prop
  | 0, _, _ => True
  | r + 1, k, w => iN (seeF (stF w)) = tl k ∧ fitL tl r (k + 1) (stF w)
theorem fitL_congr {tl tl' : Nat → Int32} : ∀ r k w, (∀ j, j < k + r → tl j = tl' j) → (fitL tl r k w ↔ fitL tl' r k w) := by
  intro r
  induction r with
  | zero => intro k w _; exact Iff.rfl
  | succ r ih =>
    intro k w h
    show (_ ∧ _) ↔ (_ ∧ _)
    rw [h k (by omega), ih (k + 1) (stF w) (fun j hj => h j (by omega))]
noncomputable def bitsF (g : Nat → Prop) (lo : Nat) : Nat → Int32
  | 0 => 0
  | k + 1 => bitsF g lo k ||| @ite Int32 (g (lo + k)) (Classical.propDecidable _) (1 <<< (iN (lo + k) &&& 31)) 0
theorem bitsF_congr {g g' : Nat → Prop} {lo : Nat} (h : ∀ v, g v ↔ g' v) : ∀ k, bitsF g lo k = bitsF g' lo k := by
  intro k
  induction k with
  | zero => rfl
  | succ k ih =>
    show bitsF g lo k ||| _ = bitsF g' lo k ||| _
    rw [ih]
    by_cases hg : g (lo + k)
    · rw [if_pos hg, if_pos ((h _).mp hg)]
    · rw [if_neg hg, if_neg (fun z => hg ((h _).mpr z))]
def placeF (what : Int32) (t s q : Nat) : Nat := if what = 0 then 44 + 10 * t else if what = 1 then 48 + 10 * t + s else if what = 2 then 5 + 5 * q else 45 + 10 * t
noncomputable def fitI (w : Nat → Int32) (n t s q K : Nat) (what : Int32) (tl : Nat → Int32) : Int32 := bitsF (fun v => fitL tl K 0 (va_up w (placeF what t s q) (iN v))) (if what = 0 then 1 else 0) (if what = 0 then 5 else n)
theorem fitI_congr {w : Nat → Int32} {n t s q K : Nat} {what : Int32} {tl tl' : Nat → Int32} (h : ∀ j, j < K → tl j = tl' j) : fitI w n t s q K what tl = fitI w n t s q K what tl' :=
  bitsF_congr (fun v => fitL_congr K 0 _ (fun j hj => h j (by omega))) _
section FIT
variable {w : Nat → Int32} {n T t c s p v : Nat}
theorem Vd.may2 (h : Vd w n T t c) (hN : Nw w t s p) {cn : Nat} (hc : (w (4 + 5 * p)).toInt = (cn : Int)) : mayP w 2 ↔ (0 < w (4 + 5 * p) ∧ (¬ w (44 + 10 * t) = 3 ∨ w 1 < 5)) := by
  rw [h.mayL hN hc (Nat.le_refl _)]
  have hT := h.2.1
  constructor
  · rintro ⟨a, b⟩
    exact ⟨by rw [ti_lt, hc]; simp only [Int32.reduceToInt]; omega, b.imp id (fun z => by rw [ti_lt, hT.1]; simp only [Int32.reduceToInt]; omega)⟩
  · rintro ⟨a, b⟩
    exact ⟨by rw [ti_lt, hc] at a; simp only [Int32.reduceToInt] at a; omega, b.imp id (fun z => by rw [ti_lt, hT.1] at z; simp only [Int32.reduceToInt] at z; omega)⟩
theorem Vd.stK (h : Vd w n T t c) : ∃ T' t', Vd (stF w) n T' t' c := by
  by_cases hm : mayP w 2
  · rw [stF_y hm]
    obtain ⟨T', t', h1, _⟩ := h.doK (by omega) hm
    exact ⟨T', t', h1⟩
  · rw [stF_n hm]; exact ⟨T, t, h⟩
theorem Vd.stHi (h : Vd w n T t c) : ∀ i, 124 ≤ i → stF w i = w i := by
  by_cases hm : mayP w 2
  · rw [stF_y hm]; exact h.doHi (by omega) hm
  · rw [stF_n hm]; intro i _; rfl
theorem TV.kind {k : Nat} (h : TV w k n) (h1 : 1 ≤ v) (h5 : v ≤ 5) : TV (va_up w k (iN v)) k n := by
  obtain ⟨kd, ho, l, s, u1, u2, u3, u4, u5, u6, u7, u8, u9, u10, u11⟩ := h
  exact ⟨v, ho, l, s, by rw [va_at' rfl]; exact iN_ti (by omega), h1, h5, by rw [va_ne' (by omega)]; exact u4, u5, by rw [va_ne' (by omega)]; exact u6, u7, u8, by rw [va_ne' (by omega)]; exact u9, u10, fun j hj => by rw [va_ne' (by omega)]; exact u11 j hj⟩
theorem TV.homev {k : Nat} (h : TV w k n) (hv : v < n) (hn : n ≤ 8) : TV (va_up w (k + 1) (iN v)) k n := by
  obtain ⟨kd, ho, l, s, u1, u2, u3, u4, u5, u6, u7, u8, u9, u10, u11⟩ := h
  exact ⟨kd, v, l, s, by rw [va_ne' (by omega)]; exact u1, u2, u3, by rw [va_at' rfl]; exact iN_ti (by omega), hv, by rw [va_ne' (by omega)]; exact u6, u7, u8, by rw [va_ne' (by omega)]; exact u9, u10, fun j hj => by rw [va_ne' (by omega)]; exact u11 j hj⟩
theorem TV.startv {k i : Nat} (h : TV w k n) (hv : v < n) (hn : n ≤ 8) : TV (va_up w (k + 4 + i) (iN v)) k n := by
  obtain ⟨kd, ho, l, s, u1, u2, u3, u4, u5, u6, u7, u8, u9, u10, u11⟩ := h
  refine ⟨kd, ho, l, s, by rw [va_ne' (by omega)]; exact u1, u2, u3, by rw [va_ne' (by omega)]; exact u4, u5, by rw [va_ne' (by omega)]; exact u6, u7, u8, by rw [va_ne' (by omega)]; exact u9, u10, fun j hj => ?_⟩
  by_cases e : j = i
  · subst e; rw [va_at' rfl]; exact ⟨v, iN_ti (by omega), hv⟩
  · rw [va_ne' (by omega)]; exact u11 j hj
theorem Vd.kindv (h : Vd w n T t c) (h1 : 1 ≤ v) (h5 : v ≤ 5) : Vd (va_up w (44 + 10 * t) (iN v)) n T t c := h.tab (fun i hi => va_ne' (by omega)) ((h.2.2.2.2.2.1 t h.2.2.1.2).kind h1 h5)
theorem Vd.homev (h : Vd w n T t c) (hv : v < n) : Vd (va_up w (45 + 10 * t) (iN v)) n T t c := by
  rw [show 45 + 10 * t = 44 + 10 * t + 1 by omega]
  exact h.tab (fun i hi => va_ne' (by omega)) ((h.2.2.2.2.2.1 t h.2.2.1.2).homev hv h.1.2.2)
theorem Vd.startv (h : Vd w n T t c) (hs : s < 6) (hv : v < n) : Vd (va_up w (48 + 10 * t + s) (iN v)) n T t c := by
  rw [show 48 + 10 * t + s = 44 + 10 * t + 4 + s by omega]
  exact h.tab (fun i hi => va_ne' (by omega)) ((h.2.2.2.2.2.1 t h.2.2.1.2).startv hv h.1.2.2)
theorem Vd.leadv (h : Vd w n T t c) {q : Nat} (hq : q < n) (hv : v < n) : Vd (va_up w (5 + 5 * q) (iN v)) n T t c := by
  obtain ⟨⟨h0, hn2, hn8⟩, ⟨h1, hT1, hT5⟩, ⟨h2, ht⟩, ⟨h3, hc⟩, hl, htv, hcv, hvv⟩ := h
  refine ⟨⟨by rw [va_ne' (by omega)]; exact h0, hn2, hn8⟩, ⟨by rw [va_ne' (by omega)]; exact h1, hT1, hT5⟩, ⟨by rw [va_ne' (by omega)]; exact h2, ht⟩, ⟨by rw [va_ne' (by omega)]; exact h3, hc⟩, fun p hp => ?_, fun i hi => (htv i hi).congr (fun j _ => va_ne' (by omega)), fun i hi => (hcv i hi).congr (fun j _ => va_ne' (by omega)), hvv.congr (fun q _ => va_ne' (by omega))⟩
  obtain ⟨c', e1, e2, e3, e4⟩ := hl p hp
  refine ⟨c', by rw [va_ne' (by omega)]; exact e1, e2, e3, fun j hj => ?_⟩
  by_cases e : 5 + 5 * p + j = 5 + 5 * q
  · rw [va_at' e]; exact ⟨v, iN_ti (by omega), hv⟩
  · rw [va_ne' e]; exact e4 j hj
end FIT
theorem WR.lead {I I' : pmI} {g n q : Nat} {w : Nat → Int32} {x x' : Int32} (h : WR I g (va_up w (5 + 5 * q) x) n) (e0 : I' g = I g) (e1 : I' (g + 1) = I (g + 1)) (e2 : I' (g + 2) = va_up (I (g + 2)) (3 * q) x') (hv : VL w n) (hq : q < n) (hn : n ≤ 8) : WR I' g (va_up w (5 + 5 * q) x') n := by
  obtain ⟨h1, h2⟩ := h
  refine ⟨by rw [e0, h1, va_ne' (by omega), va_ne' (by omega)], fun p hp => ?_⟩
  obtain ⟨a, b⟩ := h2 p hp
  obtain ⟨c, c1, c2, c3, _⟩ := hv p hp
  refine ⟨by rw [e1, a, va_ne' (by omega), va_ne' (by omega)], fun j hj => ?_⟩
  rw [va_ne' (by omega)] at hj
  have hb := b j (by rw [va_ne' (by omega)]; exact hj)
  rw [e2]
  by_cases e : p = q ∧ j = 0
  · obtain ⟨rfl, rfl⟩ := e
    rw [va_at' (by omega), va_at' (by omega)]
  · rw [va_ne' (by omega), va_ne' (by omega), hb, va_ne' (by omega)]
def FrFit (I J : pmI) : Prop := ∀ k, k ≠ 0 → k ≠ 553 → (k < 578 ∨ 584 ≤ k) → J k = I k
def FrG (I J : pmI) : Prop := ∀ k, k ≠ 578 → k ≠ 579 → J k = I k
def FrG2 (I J : pmI) : Prop := ∀ k, k < 578 ∨ 583 ≤ k → J k = I k
