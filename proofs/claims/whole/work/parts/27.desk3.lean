/-! closing -/
def shL (f : Nat → Option Nat) (t k : Nat) : Nat → Option Nat := fun j => if t ≤ j ∧ j < k then f (j + 1) else f j
def rotLI (t T j : Nat) : Nat := if t ≤ j ∧ j < T - 1 then j + 1 else if j = T - 1 then t else j
def rotL (f : Nat → Option Nat) (t T : Nat) : Nat → Option Nat := fun j => f (rotLI t T j)
theorem shL_0 {f : Nat → Option Nat} {t : Nat} : shL f t t = f := by
  funext j; unfold shL; rw [if_neg (by omega)]
theorem shL_off {f : Nat → Option Nat} {t k j : Nat} (h : j < t ∨ k ≤ j) : shL f t k j = f j := by unfold shL; rw [if_neg (by omega)]
theorem shL_step {f : Nat → Option Nat} {t k : Nat} (h : t ≤ k) : va_up (shL f t k) k (f (k + 1)) = shL f t (k + 1) := by
  funext j; simp only [shL, va_up]
  by_cases h1 : j = k
  · subst h1; rw [if_pos rfl, if_pos (by omega)]
  · rw [if_neg h1]
    by_cases h2 : t ≤ j ∧ j < k
    · rw [if_pos h2, if_pos (by omega)]
    · rw [if_neg h2, if_neg (by omega)]
theorem shL_end {f : Nat → Option Nat} {t T : Nat} (h : t < T) : va_up (shL f t (T - 1)) (T - 1) (f t) = rotL f t T := by
  funext j; simp only [shL, va_up, rotL, rotLI]
  by_cases h1 : j = T - 1
  · subst h1; rw [if_pos rfl, if_neg (by omega), if_pos rfl]
  · rw [if_neg h1]
    by_cases h2 : t ≤ j ∧ j < T - 1
    · rw [if_pos h2, if_pos h2]
    · rw [if_neg h2, if_neg h2, if_neg h1]
theorem rotLI_lt {t T j : Nat} (hT : T ≤ 5) (ht : t < T) (hj : j < 5) : rotLI t T j < 5 := by unfold rotLI; split <;> (try split) <;> omega
theorem rotLI_inj {t T i j : Nat} (ht : t < T) (h : rotLI t T i = rotLI t T j) : i = j := by
  unfold rotLI at h
  split at h <;> split at h <;> (try split at h) <;> (try split at h) <;> omega
theorem DG.rotl {S : pmS} {P : pmP} {d t T : Nat} (h : DG S P d) (ht : t < T) (hT : T ≤ 5) : DG S (va_up P (d + 1) (rotL (P (d + 1)) t T)) d :=
  h.perm (rotLI t T) (fun j hj => rotLI_lt hT ht hj) (fun i j _ _ e => rotLI_inj ht e) (fun _ _ => rfl)
/-- the closed ones, the oldest behind -/
def rotC (f : Nat → Option Nat) : Nat → Option Nat := va_up (va_up (va_up f 0 (f 1)) 1 (f 2)) 2 (f 0)
def rotCI (j : Nat) : Nat := if j = 0 then 1 else if j = 1 then 2 else 0
theorem rotC_eq {f : Nat → Option Nat} {j : Nat} (h : j < 3) : rotC f j = f (rotCI j) := by
  rcases (show j = 0 ∨ j = 1 ∨ j = 2 by omega) with rfl | rfl | rfl <;> rfl
theorem DG.rotc {S : pmS} {P : pmP} {d : Nat} (h : DG S P d) : DG S (va_up P (d + 2) (rotC (P (d + 2)))) d :=
  h.permC rotCI (fun j hj => by unfold rotCI; split <;> (try split) <;> omega) (fun i j hi hj e => by unfold rotCI at e; split at e <;> split at e <;> (try split at e) <;> (try split at e) <;> omega) (fun _ h => rotC_eq h)
section CLOSE
variable {S : pmS} {P : pmP} {I I' : pmI} {d T c n t : Nat} {w : Nat → Int32}
/-- a copy of a tab -/
theorem TR.copy {u f k : Nat} (h : TR I u w k) (hl : (w (k + 2)).toInt ≤ 6) (h1 : ∀ j, 1 ≤ j → j ≤ 4 → I' f j = I u j) (h2 : ∀ j, j < 6 → I' (f + 1) j = I (u + 1) j) : TR I' f w k := by
  obtain ⟨t1, t2, t3, t4, t5⟩ := h
  exact ⟨by rw [h1 1 (by omega) (by omega)]; exact t1, by rw [h1 2 (by omega) (by omega)]; exact t2, by rw [h1 3 (by omega) (by omega)]; exact t3, by rw [h1 4 (by omega) (by omega)]; exact t4, fun j hj => by rw [h2 j (by omega)]; exact t5 j hj⟩
/-- kept among fewer than three -/
theorem DR.keep (h : DR I P d w T c) (hG : DG S P d) (hV : Vd w n T t c) (hk : w (44 + 10 * t) < 4) (hc : c < 3) {tt u : Nat} (htt : P (d + 1) t = some tt) (hu : P (d + 2) c = some u) (hF : ∀ k, k ≠ d → k ≠ u → k ≠ u + 1 → I' k = I k) (e3 : I' d 3 = I d 3) (e4 : I' d 4 = I d 4) (e5 : I' d 5 = iN (c + 1)) (b1 : ∀ j, 1 ≤ j → j ≤ 4 → I' u j = I tt j) (b2 : ∀ j, j < 6 → I' (u + 1) j = I (tt + 1) j) : DR I' P d (keepF w t c) T (keepC w t c) := by
  obtain ⟨v1, v2, v3, v4, v5, v6, v7, v8⟩ := hV
  obtain ⟨h1, h2, h3, h4, h5, h6⟩ := h
  obtain ⟨_, a, b⟩ := hG.cl_in hc hu
  have hcc : keepC w t c = c + 1 := by unfold keepC; rw [if_pos hk, if_neg (by omega)]
  have off : ∀ i, i ≠ 3 → i < 94 → keepF w t c i = w i := fun i x y => keep_off x y
  rw [hcc]
  refine ⟨by rw [e3, off _ (by omega) (by omega)]; exact h1, by rw [e4, off _ (by omega) (by omega)]; exact h2, ?_, fun i hi x hx => ?_, fun i hi x hx => ?_, fun p hp => by rw [hF _ (by omega) (by omega) (by omega), off _ (by omega) (by omega)]; exact h6 p hp⟩
  · rw [e5]; unfold keepF; rw [if_pos hk, if_neg (by omega), va_at' rfl]
  · obtain ⟨_, a2, b2⟩ := hG.row_in (by omega) hx
    exact ((h4 i hi x hx).congrW (fun j hj => off _ (by omega) (by omega)) (v6 i hi).l6).congr (hF _ (by omega) (by omega) (by omega)) (hF _ (by omega) (by omega) (by omega))
  · unfold keepF
    rw [if_pos hk, if_neg (by omega)]
    by_cases hic : i = c
    · subst hic
      cases hx.symm.trans hu
      refine ((h4 t v3.2 tt htt).copy (v6 t v3.2).l6 b1 b2).congrW (fun j hj => ?_) (v6 t v3.2).l6
      rw [va_ne' (by omega), cpy_in (by omega)]
      congr 1; omega
    · have hap := hG.apartC (by omega) hc hic hx hu
      obtain ⟨_, a2, b2⟩ := hG.cl_in (by omega) hx
      exact ((h5 i (by omega) x hx).congrW (fun j hj => by rw [va_ne' (by omega), cpy_off (by omega)]) (v7 i (by omega)).l6).congr (hF _ (by omega) (by omega) (by omega)) (hF _ (by omega) (by omega) (by omega))
/-- kept among three: the oldest goes -/
theorem DR.keep3 (h : DR I P d w T 3) (hG : DG S P d) (hV : Vd w n T t 3) (hk : w (44 + 10 * t) < 4) {tt u : Nat} (htt : P (d + 1) t = some tt) (hu : P (d + 2) 0 = some u) (hF : ∀ k, k ≠ d → k ≠ u → k ≠ u + 1 → I' k = I k) (e3 : I' d 3 = I d 3) (e4 : I' d 4 = I d 4) (e5 : I' d 5 = iN 3) (b1 : ∀ j, 1 ≤ j → j ≤ 4 → I' u j = I tt j) (b2 : ∀ j, j < 6 → I' (u + 1) j = I (tt + 1) j) : DR I' (va_up P (d + 2) (rotC (P (d + 2)))) d (keepF w t 3) T (keepC w t 3) := by
  obtain ⟨v1, v2, v3, v4, v5, v6, v7, v8⟩ := hV
  obtain ⟨h1, h2, h3, h4, h5, h6⟩ := h
  obtain ⟨_, a, b⟩ := hG.cl_in (by omega) hu
  have hcc : keepC w t 3 = 3 := by unfold keepC; rw [if_pos hk, if_pos rfl]
  have off : ∀ i, i ≠ 3 → i < 94 → keepF w t 3 i = w i := fun i x y => keep_off x y
  rw [hcc]
  refine ⟨by rw [e3, off _ (by omega) (by omega)]; exact h1, by rw [e4, off _ (by omega) (by omega)]; exact h2, ?_, fun i hi x hx => ?_, fun i hi x hx => ?_, fun p hp => by rw [hF _ (by omega) (by omega) (by omega), off _ (by omega) (by omega)]; exact h6 p hp⟩
  · rw [e5]; unfold keepF; rw [if_pos hk, if_pos rfl, va_at' rfl]
  · rw [va_ne' (by omega)] at hx
    obtain ⟨_, a2, b2⟩ := hG.row_in (by omega) hx
    exact ((h4 i hi x hx).congrW (fun j hj => off _ (by omega) (by omega)) (v6 i hi).l6).congr (hF _ (by omega) (by omega) (by omega)) (hF _ (by omega) (by omega) (by omega))
  · rw [va_at' rfl, rotC_eq hi] at hx
    unfold keepF
    rw [if_pos hk, if_pos rfl]
    unfold rotCI at hx
    by_cases hi2 : i = 2
    · subst hi2
      rw [if_neg (by omega), if_neg (by omega)] at hx
      cases hx.symm.trans hu
      refine ((h4 t v3.2 tt htt).copy (v6 t v3.2).l6 b1 b2).congrW (fun j hj => ?_) (v6 t v3.2).l6
      simp (disch := omega) only [va_ne', cpy_off, cpy_in]
      congr 1; omega
    · by_cases hi1 : i = 1
      · subst hi1
        rw [if_neg (by omega), if_pos rfl] at hx
        have hap := hG.apartC (i := 2) (j := 0) (by omega) (by omega) (by omega) hx hu
        obtain ⟨_, a2, b2⟩ := hG.cl_in (by omega) hx
        refine ((h5 2 (by omega) x hx).congrW (fun j hj => ?_) (v7 2 (by omega)).l6).congr (hF _ (by omega) (by omega) (by omega)) (hF _ (by omega) (by omega) (by omega))
        simp (disch := omega) only [va_ne', cpy_off, cpy_in]
        congr 1; omega
      · obtain rfl : i = 0 := by omega
        rw [if_pos rfl] at hx
        have hap := hG.apartC (i := 1) (j := 0) (by omega) (by omega) (by omega) hx hu
        obtain ⟨_, a2, b2⟩ := hG.cl_in (by omega) hx
        refine ((h5 1 (by omega) x hx).congrW (fun j hj => ?_) (v7 1 (by omega)).l6).congr (hF _ (by omega) (by omega) (by omega)) (hF _ (by omega) (by omega) (by omega))
        simp (disch := omega) only [va_ne', cpy_off, cpy_in]
        congr 1; omega
/-- the row closes up behind the one that is kept, or forgotten -/
theorem DR.gone (h : DR I P d (keepF w t c) T (keepC w t c)) (hG : DG S P d) (hV : Vd w n T t c) (hT : 2 ≤ T) (e : I' = va_up I d (va_up (va_up (I d) 3 (iN (T - 1))) 4 (if t < T - 1 then iN t else iN (T - 2)))) : DR I' (va_up P (d + 1) (rotL (P (d + 1)) t T)) d (closesF w T t c) (T - 1) (keepC w t c) := by
  obtain ⟨k1, k2, k3⟩ := keep_TV hV
  obtain ⟨v1, v2, v3, v4, v5, v6, v7, v8⟩ := hV
  obtain ⟨h1, h2, h3, h4, h5, h6⟩ := h
  have hF : ∀ k, k ≠ d → I' k = I k := fun k hk => by rw [e]; exact va_ne' hk
  refine ⟨?_, ?_, ?_, fun i hi x hx => ?_, fun i hi x hx => ?_, fun p hp => ?_⟩
  · rw [e]; unfold closesF; simp (disch := omega) only [va_at', va_ne', cpy_off]
  · rw [e]; unfold closesF; simp (disch := omega) only [va_at', va_ne']
  · rw [e, closes_off (by omega) (by omega) v3.2]; simp (disch := omega) only [va_at', va_ne']; exact h3
  · rw [va_at' rfl] at hx
    unfold rotL rotLI at hx
    by_cases c1 : i < t
    · rw [if_neg (by omega), if_neg (by omega)] at hx
      obtain ⟨_, a2, b2⟩ := hG.row_in (by omega) hx
      exact ((h4 i (by omega) x hx).congrW (fun j hj => closes_off (by omega) (by omega) v3.2) (by rw [keep_off (by omega) (by omega)]; exact (v6 i (by omega)).l6)).congr (hF _ (by omega)) (hF _ (by omega))
    · rw [if_pos (by omega)] at hx
      obtain ⟨_, a2, b2⟩ := hG.row_in (by omega) hx
      refine ((h4 (i + 1) (by omega) x hx).congrW (fun j hj => ?_) (by rw [keep_off (by omega) (by omega)]; exact (v6 (i + 1) (by omega)).l6)).congr (hF _ (by omega)) (hF _ (by omega))
      rw [closes_mv (by omega) v2.2.2, keep_off (by omega) (by omega)]
      congr 1; omega
  · rw [va_ne' (by omega)] at hx
    obtain ⟨_, a2, b2⟩ := hG.cl_in (by omega) hx
    exact ((h5 i hi x hx).congrW (fun j hj => closes_off (by omega) (by omega) v3.2) (k3 i hi).l6).congr (hF _ (by omega)) (hF _ (by omega))
  · rw [hF _ (by omega), closes_off (by omega) (by omega) v3.2]; exact h6 p hp
end CLOSE
theorem min_now {T t : Nat} (h : t < T) (hT : T ≤ 5) (h2 : 2 ≤ T) : (if iN (T - 1) - 1 < iN t then iN (T - 1) - 1 else iN t) = if t < T - 1 then iN t else iN (T - 2) := by
  rw [iN_lit, iN_sub (by omega), show T - 1 - 1 = T - 2 by omega]
  by_cases hlt : t < T - 1
  · rw [if_pos hlt, if_neg (by rw [iN_lt (by omega) (by omega)]; omega)]
  · rw [if_neg hlt, if_pos (by rw [iN_lt (by omega) (by omega)]; omega)]
