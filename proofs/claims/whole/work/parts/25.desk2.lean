/-! tabs that change their places -/
def rotI (q T j : Nat) : Nat := if q < j ∧ j ≤ T then j - 1 else if j = q then T else j
def rotF (f : Nat → Option Nat) (q T : Nat) : Nat → Option Nat := fun j => f (rotI q T j)
def shF (f : Nat → Option Nat) (c T : Nat) : Nat → Option Nat := fun j => if c < j ∧ j ≤ T then f (j - 1) else f j
theorem shF_0 {f : Nat → Option Nat} {T : Nat} : shF f T T = f := by
  funext j; unfold shF; rw [if_neg (by omega)]
theorem shF_off {f : Nat → Option Nat} {c T j : Nat} (h : j ≤ c ∨ T < j) : shF f c T j = f j := by unfold shF; rw [if_neg (by omega)]
theorem shF_step {f : Nat → Option Nat} {c T : Nat} (h : c + 1 ≤ T) : va_up (shF f (c + 1) T) (c + 1) (f c) = shF f c T := by
  funext j; simp only [shF, va_up]
  by_cases h1 : j = c + 1
  · subst h1; rw [if_pos rfl, if_pos (by omega)]; congr 1
  · rw [if_neg h1]
    by_cases h2 : c + 1 < j ∧ j ≤ T
    · rw [if_pos h2, if_pos (by omega)]
    · rw [if_neg h2, if_neg (by omega)]
theorem shF_end {f : Nat → Option Nat} {q T : Nat} : va_up (shF f q T) q (f T) = rotF f q T := by
  funext j; simp only [shF, va_up, rotF, rotI]
  by_cases h1 : j = q
  · subst h1; rw [if_pos rfl, if_neg (by omega), if_pos rfl]
  · rw [if_neg h1]
    by_cases h2 : q < j ∧ j ≤ T
    · rw [if_pos h2, if_pos h2]
    · rw [if_neg h2, if_neg h2, if_neg h1]
theorem rotI_lt {q T j : Nat} (hT : T < 5) (hq : q ≤ T) (hj : j < 5) : rotI q T j < 5 := by unfold rotI; split <;> (try split) <;> omega
theorem rotI_inj {q T i j : Nat} (hq : q ≤ T) (h : rotI q T i = rotI q T j) : i = j := by
  unfold rotI at h
  split at h <;> split at h <;> (try split at h) <;> (try split at h) <;> omega
theorem DG.perm {S : pmS} {P : pmP} {d : Nat} (h : DG S P d) (σ : Nat → Nat) (h1 : ∀ j, j < 5 → σ j < 5) (h2 : ∀ i j, i < 5 → j < 5 → σ i = σ j → i = j) {f : Nat → Option Nat} (hf : ∀ j, j < 5 → f j = P (d + 1) (σ j)) : DG S (va_up P (d + 1) f) d := by
  obtain ⟨⟨a1, a2, a3, a4, a5, a6, a7⟩, a8, a9, a10, a11, a12⟩ := h
  refine ⟨⟨a1, by rw [va_ne' (by omega)]; exact a2, by rw [va_ne' (by omega)]; exact a3, by rw [va_ne' (by omega)]; exact a4, a5, a6, a7⟩, fun e he => (a8 e he).congr (va_ne' (by omega)), fun i hi => ?_, fun i j hi hj e => ?_, ?_, ?_⟩
  · rw [va_at' rfl, hf i hi]; exact a9 (σ i) (h1 i hi)
  · rw [va_at' rfl, hf i hi, hf j hj] at e
    exact h2 i j hi hj (a10 _ _ (h1 i hi) (h1 j hj) e)
  · rw [va_ne' (by omega)]; exact a11
  · rw [va_ne' (by omega)]; exact a12
theorem DG.permC {S : pmS} {P : pmP} {d : Nat} (h : DG S P d) (σ : Nat → Nat) (h1 : ∀ j, j < 3 → σ j < 3) (h2 : ∀ i j, i < 3 → j < 3 → σ i = σ j → i = j) {f : Nat → Option Nat} (hf : ∀ j, j < 3 → f j = P (d + 2) (σ j)) : DG S (va_up P (d + 2) f) d := by
  obtain ⟨⟨a1, a2, a3, a4, a5, a6, a7⟩, a8, a9, a10, a11, a12⟩ := h
  refine ⟨⟨a1, by rw [va_ne' (by omega)]; exact a2, by rw [va_ne' (by omega)]; exact a3, by rw [va_ne' (by omega)]; exact a4, a5, a6, a7⟩, fun e he => (a8 e he).congr (va_ne' (by omega)), ?_, ?_, fun i hi => ?_, fun i j hi hj e => ?_⟩
  · rw [va_ne' (by omega)]; exact a9
  · rw [va_ne' (by omega)]; exact a10
  · rw [va_at' rfl, hf i hi]; exact a11 (σ i) (h1 i hi)
  · rw [va_at' rfl, hf i hi, hf j hj] at e
    exact h2 i j hi hj (a12 _ _ (h1 i hi) (h1 j hj) e)
theorem DG.rot {S : pmS} {P : pmP} {d q T : Nat} (h : DG S P d) (hq : q ≤ T) (hT : T < 5) : DG S (va_up P (d + 1) (rotF (P (d + 1)) q T)) d :=
  h.perm (rotI q T) (fun j hj => rotI_lt hT hq hj) (fun i j _ _ e => rotI_inj hq e) (fun _ _ => rfl)
section INS
variable {S : pmS} {P : pmP} {I I' : pmI} {d T c n t q f : Nat} {w : Nat → Int32} {place page : Int32}
theorem TV.l6 {w : Nat → Int32} {k n : Nat} (h : TV w k n) : (w (k + 2)).toInt ≤ 6 := by
  obtain ⟨_, _, l, _, _, _, _, _, _, hl, _, hl6, _⟩ := h
  omega
theorem DR.ins (h : DR I P d w T c) (hG : DG S P d) (hV : Vd w n T t c) (hT : T < 5) (hq : q ≤ T) (hpl : place.toInt = (q : Int)) (hf : P (d + 1) T = some f) (hF : Fr2 (va_up I d (va_up (va_up (I d) 3 (iN (T + 1))) 4 (iN q))) I' f) (hfr : ∀ w k, TR I' f (freshF w k 1 page) k) : DR I' (va_up P (d + 1) (rotF (P (d + 1)) q T)) d (insF w T q place page) (T + 1) c := by
  obtain ⟨_, a, b⟩ := hG.row_in hT hf
  obtain ⟨v1, v2, v3, v4, v5, v6, v7, v8⟩ := hV
  obtain ⟨h1, h2, h3, h4, h5, h6⟩ := h
  have hw1 : w 1 + 1 = iN (T + 1) := by rw [iN_of v2.1, iN_lit, iN_add]
  refine ⟨?_, ?_, ?_, fun i hi u hu => ?_, fun i hi u hu => ?_, fun p hp => ?_⟩
  · rw [hF _ (by omega) (by omega)]; unfold insF; simp (disch := omega) only [va_at', va_ne']; exact hw1.symm
  · rw [hF _ (by omega) (by omega)]; unfold insF; simp (disch := omega) only [va_at', va_ne']; exact (iN_of hpl).symm
  · rw [hF _ (by omega) (by omega), ins_at (by omega) (by omega) hq]; simp (disch := omega) only [va_at', va_ne']; exact h3
  · rw [va_at' rfl] at hu
    unfold rotF rotI at hu
    by_cases c1 : i < q
    · rw [if_neg (by omega), if_neg (by omega)] at hu
      have hap := hG.apart (by omega) hT (by omega) hu hf
      obtain ⟨_, a2, b2⟩ := hG.row_in (by omega) hu
      exact ((h4 i (by omega) u hu).congrW (fun j hj => ins_at (by omega) (by omega) hq) (v6 i (by omega)).l6).congr (by rw [hF _ (by omega) (by omega), va_ne' (by omega)]) (by rw [hF _ (by omega) (by omega), va_ne' (by omega)])
    · by_cases c2 : i = q
      · subst c2
        rw [if_neg (by omega), if_pos rfl] at hu
        cases hu.symm.trans hf
        refine (hfr (va_cpy w w (44 + 10 * i) (54 + 10 * i) (10 * (T - i))) (44 + 10 * i)).congrW (fun j hj => ?_) ?_
        · unfold insF; rw [va_ne' (by omega), va_ne' (by omega)]
        · have e : freshF (va_cpy w w (44 + 10 * i) (54 + 10 * i) (10 * (T - i))) (44 + 10 * i) 1 page (44 + 10 * i + 2) = 1 := by simp (disch := omega) only [freshF, va_ne', va_at']
          rw [e]; decide
      · rw [if_pos (by omega)] at hu
        have hap := hG.apart (by omega) hT (by omega) hu hf
        obtain ⟨_, a2, b2⟩ := hG.row_in (by omega) hu
        exact ((h4 (i - 1) (by omega) u hu).congrW (fun j hj => by rw [ins_mv hq (by omega)]; congr 1; omega) (v6 (i - 1) (by omega)).l6).congr (by rw [hF _ (by omega) (by omega), va_ne' (by omega)]) (by rw [hF _ (by omega) (by omega), va_ne' (by omega)])
  · rw [va_ne' (by omega)] at hu
    obtain ⟨_, a2, b2⟩ := hG.cl_in (by omega) hu
    exact ((h5 i hi u hu).congrW (fun j hj => ins_at (by omega) (by omega) hq) (v7 i hi).l6).congr (by rw [hF _ (by omega) (by omega), va_ne' (by omega)]) (by rw [hF _ (by omega) (by omega), va_ne' (by omega)])
  · rw [hF _ (by omega) (by omega), ins_at (by omega) (by omega) hq, va_ne' (by omega)]; exact h6 p hp
/-- a closed tab stands again -/
theorem DR.again (h : DR I P d w T c) (hG : DG S P d) (hV : Vd w n T t c) (hT : T < 5) (hc1 : 1 ≤ c) {u : Nat} (hf : P (d + 1) T = some f) (hu : P (d + 2) (c - 1) = some u) (hF : ∀ k, k ≠ d → k ≠ f → k ≠ f + 1 → I' k = I k) (e3 : I' d 3 = iN (T + 1)) (e4 : I' d 4 = iN T) (e5 : I' d 5 = iN (c - 1)) (hb : (∀ j, 1 ≤ j → j ≤ 4 → I' f j = I u j) ∧ ∀ j, j < 6 → I' (f + 1) j = I (u + 1) j) : DR I' (va_up P (d + 1) (rotF (P (d + 1)) T T)) d (againF w T c) (T + 1) (c - 1) := by
  obtain ⟨_, a, b⟩ := hG.row_in hT hf
  obtain ⟨v1, v2, v3, v4, v5, v6, v7, v8⟩ := hV
  obtain ⟨h1, h2, h3, h4, h5, h6⟩ := h
  refine ⟨?_, ?_, ?_, fun i hi x hx => ?_, fun i hi x hx => ?_, fun p hp => ?_⟩
  · rw [e3]; unfold againF; simp (disch := omega) only [va_at', va_ne']
  · rw [e4]; unfold againF; simp (disch := omega) only [va_at', va_ne']
  · rw [e5]; unfold againF; simp (disch := omega) only [va_at', va_ne', cpy_off]
  · rw [va_at' rfl] at hx
    unfold rotF rotI at hx
    rw [if_neg (by omega)] at hx
    by_cases c1 : i = T
    · subst c1
      rw [if_pos rfl] at hx
      cases hx.symm.trans hf
      have hT5 := h5 (c - 1) (by omega) u hu
      have hl6 := (v7 (c - 1) (by omega)).l6
      refine TR.congrW (w := w) (k := 94 + 10 * (c - 1)) ?_ (fun j hj => ?_) hl6
      · obtain ⟨t1, t2, t3, t4, t5⟩ := hT5
        exact ⟨by rw [hb.1 1 (by omega) (by omega)]; exact t1, by rw [hb.1 2 (by omega) (by omega)]; exact t2, by rw [hb.1 3 (by omega) (by omega)]; exact t3, by rw [hb.1 4 (by omega) (by omega)]; exact t4, fun j hj => by rw [hb.2 j (by omega)]; exact t5 j hj⟩
      · unfold againF
        rw [va_ne' (by omega), va_ne' (by omega), cpy_in (by omega), va_ne' (by omega)]
        congr 1; omega
    · rw [if_neg c1] at hx
      have hap := hG.apart (by omega) hT c1 hx hf
      obtain ⟨_, a2, b2⟩ := hG.row_in (by omega) hx
      exact ((h4 i (by omega) x hx).congrW (fun j hj => again_off (by omega) (by omega)) (v6 i (by omega)).l6).congr (hF _ (by omega) (by omega) (by omega)) (hF _ (by omega) (by omega) (by omega))
  · rw [va_ne' (by omega)] at hx
    obtain ⟨_, a2, b2⟩ := hG.cl_in (by omega) hx
    exact ((h5 i (by omega) x hx).congrW (fun j hj => again_off (by omega) (by omega)) (v7 i (by omega)).l6).congr (hF _ (by omega) (by omega) (by omega)) (hF _ (by omega) (by omega) (by omega))
  · rw [hF _ (by omega) (by omega) (by omega), again_off (by omega) (by omega)]; exact h6 p hp
end INS
theorem max0 {n : Nat} (h : n < 2147483648) : (if (0 : Int32) < iN n then iN n else 0) = iN n := by
  split
  · rfl
  · next hh =>
    simp (disch := omega) only [iN_lit, iN_lt] at hh
    rw [show n = 0 by omega]; rfl
/-- what is seen behind a new tab -/
theorem see_ins {w : Nat → Int32} {T q p : Nat} {place page : Int32} (hq : q ≤ T) (hpl : place.toInt = (q : Int)) (hp : page.toInt = (p : Int)) : seeF (insF w T q place page) = p := by
  have e2 : tn (insF w T q place page 2) = q := by unfold insF; rw [va_at' rfl]; unfold tn; omega
  have e3 : insF w T q place page (47 + 10 * q) = 0 := by unfold insF; simp (disch := omega) only [freshF, va_ne', va_at']
  have e4 : insF w T q place page (48 + 10 * q + 0) = page := by unfold insF; simp (disch := omega) only [freshF, va_ne', va_at']
  unfold seeF
  rw [e2, e3, show tn 0 = 0 from rfl, e4]
  unfold tn; omega
