/-! a desk, and how it stands to the reference's row -/
def DG (S : pmS) (P : pmP) (d : Nat) : Prop := (OB S d 1 ∧ P d 0 = some (d + 1) ∧ P d 1 = some (d + 2) ∧ P d 2 = some (d + 3) ∧ AR S (d + 1) 16 5 ∧ AR S (d + 2) 16 3 ∧ AR S (d + 3) 11 8) ∧ (∀ e, e < 8 → TabG S P (d + 4 + 2 * e)) ∧ (∀ i, i < 5 → ∃ e, e < 5 ∧ P (d + 1) i = some (d + 4 + 2 * e)) ∧ (∀ i j, i < 5 → j < 5 → P (d + 1) i = P (d + 1) j → i = j) ∧ (∀ i, i < 3 → ∃ e, 5 ≤ e ∧ e < 8 ∧ P (d + 2) i = some (d + 4 + 2 * e)) ∧ (∀ i j, i < 3 → j < 3 → P (d + 2) i = P (d + 2) j → i = j)
def DR (I : pmI) (P : pmP) (d : Nat) (w : Nat → Int32) (T c : Nat) : Prop := I d 3 = w 1 ∧ I d 4 = w 2 ∧ I d 5 = w 3 ∧ (∀ i, i < T → ∀ t, P (d + 1) i = some t → TR I t w (44 + 10 * i)) ∧ (∀ i, i < c → ∀ t, P (d + 2) i = some t → TR I t w (94 + 10 * i)) ∧ (∀ p, p < 8 → I (d + 3) p = w (8 + 5 * p))
/-- only the desk's cells have changed -/
def FrD (I I' : pmI) (d : Nat) : Prop := ∀ k, k < d ∨ d + 20 ≤ k → I' k = I k
/-- only the desk's rows of tabs have changed -/
def FrP (P P' : pmP) (d : Nat) : Prop := ∀ k, k ≠ d + 1 → k ≠ d + 2 → P' k = P k
theorem FrD.rf {I : pmI} {d : Nat} : FrD I I d := fun _ _ => rfl
theorem FrP.rf {P : pmP} {d : Nat} : FrP P P d := fun _ _ _ => rfl
theorem FrD.tr {I I' I'' : pmI} {d : Nat} (h : FrD I I' d) (h2 : FrD I' I'' d) : FrD I I'' d := fun k hk => (h2 k hk).trans (h k hk)
theorem FrP.tr {P P' P'' : pmP} {d : Nat} (h : FrP P P' d) (h2 : FrP P' P'' d) : FrP P P'' d := fun k a b => (h2 k a b).trans (h k a b)
theorem Fr2.D {I I' : pmI} {t d : Nat} (h : Fr2 I I' t) (h1 : d ≤ t) (h2 : t + 1 < d + 20) : FrD I I' d := fun k hk => h k (by omega) (by omega)
theorem TabG.congr {S : pmS} {P P' : pmP} {t : Nat} (h : TabG S P t) (e : P' t = P t) : TabG S P' t := by
  obtain ⟨h1, h2, h3⟩ := h
  exact ⟨h1, by rw [e]; exact h2, h3⟩
section DESK
variable {S : pmS} {P : pmP} {I I' : pmI} {d T c n t : Nat} {w w' : Nat → Int32}
theorem DG.row (h : DG S P d) {i : Nat} (hi : i < 5) : ∃ t, P (d + 1) i = some t ∧ TabG S P t ∧ d + 4 ≤ t ∧ t + 1 < d + 14 := by
  obtain ⟨e, he, h1⟩ := h.2.2.1 i hi
  exact ⟨_, h1, h.2.1 e (by omega), by omega, by omega⟩
theorem DG.cl (h : DG S P d) {i : Nat} (hi : i < 3) : ∃ t, P (d + 2) i = some t ∧ TabG S P t ∧ d + 14 ≤ t ∧ t + 1 < d + 20 := by
  obtain ⟨e, he, he2, h1⟩ := h.2.2.2.2.1 i hi
  exact ⟨_, h1, h.2.1 e (by omega), by omega, by omega⟩
theorem DG.row_in (h : DG S P d) {i t : Nat} (hi : i < 5) (ht : P (d + 1) i = some t) : TabG S P t ∧ d + 4 ≤ t ∧ t + 1 < d + 14 := by
  obtain ⟨t', h1, h2⟩ := h.row hi
  cases h1.symm.trans ht
  exact h2
theorem DG.cl_in (h : DG S P d) {i t : Nat} (hi : i < 3) (ht : P (d + 2) i = some t) : TabG S P t ∧ d + 14 ≤ t ∧ t + 1 < d + 20 := by
  obtain ⟨t', h1, h2⟩ := h.cl hi
  cases h1.symm.trans ht
  exact h2
theorem DG.apart (h : DG S P d) {i j a b : Nat} (hi : i < 5) (hj : j < 5) (hij : i ≠ j) (ha : P (d + 1) i = some a) (hb : P (d + 1) j = some b) : a + 1 < b ∨ b + 1 < a := by
  obtain ⟨e, he, h1⟩ := h.2.2.1 i hi
  obtain ⟨f, hf, h2⟩ := h.2.2.1 j hj
  cases ha.symm.trans h1
  cases hb.symm.trans h2
  have : e ≠ f := fun q => hij (h.2.2.2.1 i j hi hj (by rw [h1, h2, q]))
  omega
theorem DG.apartC (h : DG S P d) {i j a b : Nat} (hi : i < 3) (hj : j < 3) (hij : i ≠ j) (ha : P (d + 2) i = some a) (hb : P (d + 2) j = some b) : a + 1 < b ∨ b + 1 < a := by
  obtain ⟨e, he, he2, h1⟩ := h.2.2.2.2.1 i hi
  obtain ⟨f, hf, hf2, h2⟩ := h.2.2.2.2.1 j hj
  cases ha.symm.trans h1
  cases hb.symm.trans h2
  have : e ≠ f := fun q => hij (h.2.2.2.2.2 i j hi hj (by rw [h1, h2, q]))
  omega
/-- the same desk where only other references changed -/
theorem DG.congr {P' : pmP} (h : DG S P d) (e : ∀ k, d ≤ k → k < d + 20 → P' k = P k) : DG S P' d := by
  obtain ⟨⟨h1, h2, h3, h4, h5, h6, h7⟩, h8, h9, h10, h11, h12⟩ := h
  refine ⟨⟨h1, by rw [e _ (by omega) (by omega)]; exact h2, by rw [e _ (by omega) (by omega)]; exact h3, by rw [e _ (by omega) (by omega)]; exact h4, h5, h6, h7⟩, fun x hx => (h8 x hx).congr (e _ (by omega) (by omega)), ?_, ?_, ?_, ?_⟩
  · rw [e _ (by omega) (by omega)]; exact h9
  · rw [e _ (by omega) (by omega)]; exact h10
  · rw [e _ (by omega) (by omega)]; exact h11
  · rw [e _ (by omega) (by omega)]; exact h12
theorem DR.congr {P' : pmP} (h : DR I P d w T c) (hG : DG S P d) (hT : T ≤ 5) (hc : c ≤ 3) (e : ∀ k, d ≤ k → k < d + 20 → P' k = P k) (e2 : ∀ k, d ≤ k → k < d + 20 → I' k = I k) : DR I' P' d w T c := by
  obtain ⟨h1, h2, h3, h4, h5, h6⟩ := h
  refine ⟨by rw [e2 _ (by omega) (by omega)]; exact h1, by rw [e2 _ (by omega) (by omega)]; exact h2, by rw [e2 _ (by omega) (by omega)]; exact h3, fun i hi t ht => ?_, fun i hi t ht => ?_, fun p hp => by rw [e2 _ (by omega) (by omega)]; exact h6 p hp⟩
  · rw [e _ (by omega) (by omega)] at ht
    obtain ⟨_, a, b⟩ := hG.row_in (by omega) ht
    exact (h4 i hi t ht).congr (e2 _ (by omega) (by omega)) (e2 _ (by omega) (by omega))
  · rw [e _ (by omega) (by omega)] at ht
    obtain ⟨_, a, b⟩ := hG.cl_in (by omega) ht
    exact (h5 i hi t ht).congr (e2 _ (by omega) (by omega)) (e2 _ (by omega) (by omega))
/-- only the tab now changes -/
theorem DR.tab (h : DR I P d w T c) (hG : DG S P d) (hT : T ≤ 5) (hc : c ≤ 3) (hv : Vd w n T t c) {tt : Nat} (htt : P (d + 1) t = some tt) (hF : Fr2 I I' tt) (off : ∀ i, i < 44 + 10 * t ∨ 54 + 10 * t ≤ i → w' i = w i) (hn : TR I' tt w' (44 + 10 * t)) : DR I' P d w' T c := by
  have htT := hv.2.2.1.2
  obtain ⟨_, a, b⟩ := hG.row_in (by omega) htt
  obtain ⟨h1, h2, h3, h4, h5, h6⟩ := h
  refine ⟨by rw [hF _ (by omega) (by omega), off _ (by omega)]; exact h1, by rw [hF _ (by omega) (by omega), off _ (by omega)]; exact h2, by rw [hF _ (by omega) (by omega), off _ (by omega)]; exact h3, fun i hi u hu => ?_, fun i hi u hu => ?_, fun p hp => by rw [hF _ (by omega) (by omega), off _ (by omega)]; exact h6 p hp⟩
  · by_cases hit : i = t
    · subst hit
      cases hu.symm.trans htt
      exact hn
    · have hap := hG.apart (by omega) (by omega) hit hu htt
      obtain ⟨_, _, l, _, _, _, _, _, _, hl, _, hl6, _⟩ := hv.2.2.2.2.2.1 i hi
      exact ((h4 i hi u hu).congrW (fun j hj => off _ (by omega)) (by omega)).congr (hF _ (by omega) (by omega)) (hF _ (by omega) (by omega))
  · obtain ⟨_, a2, b2⟩ := hG.cl_in (by omega) hu
    obtain ⟨_, _, l, _, _, _, _, _, _, hl, _, hl6, _⟩ := hv.2.2.2.2.2.2.1 i hi
    exact ((h5 i hi u hu).congrW (fun j hj => off _ (by omega)) (by omega)).congr (hF _ (by omega) (by omega)) (hF _ (by omega) (by omega))
/-- what doesn't touch tabs -/
theorem DR.nums (h : DR I P d w T c) (hG : DG S P d) (hT : T ≤ 5) (hc : c ≤ 3) (hv : (∀ i, i < T → TV w (44 + 10 * i) n) ∧ (∀ i, i < c → TV w (94 + 10 * i) n)) (hF : ∀ k, k ≠ d → k ≠ d + 3 → I' k = I k) (off : ∀ i, 44 ≤ i → w' i = w i) (e1 : I' d 3 = w' 1) (e2 : I' d 4 = w' 2) (e3 : I' d 5 = w' 3) (e4 : ∀ p, p < 8 → I' (d + 3) p = w' (8 + 5 * p)) : DR I' P d w' T c := by
  obtain ⟨h1, h2, h3, h4, h5, h6⟩ := h
  refine ⟨e1, e2, e3, fun i hi u hu => ?_, fun i hi u hu => ?_, e4⟩
  · obtain ⟨_, a2, b2⟩ := hG.row_in (by omega) hu
    obtain ⟨_, _, l, _, _, _, _, _, _, hl, _, hl6, _⟩ := hv.1 i hi
    exact ((h4 i hi u hu).congrW (fun j hj => off _ (by omega)) (by omega)).congr (hF _ (by omega) (by omega)) (hF _ (by omega) (by omega))
  · obtain ⟨_, a2, b2⟩ := hG.cl_in (by omega) hu
    obtain ⟨_, _, l, _, _, _, _, _, _, hl, _, hl6, _⟩ := hv.2 i hi
    exact ((h5 i hi u hu).congrW (fun j hj => off _ (by omega)) (by omega)).congr (hF _ (by omega) (by omega)) (hF _ (by omega) (by omega))
end DESK
/-- a web's cells -/
def WebG (S : pmS) (P : pmP) (g : Nat) : Prop := OB S g 8 ∧ P g 0 = some (g + 1) ∧ P g 1 = some (g + 2) ∧ AR S (g + 1) 11 8 ∧ AR S (g + 2) 11 24
def WR (I : pmI) (g : Nat) (w : Nat → Int32) (n : Nat) : Prop := I g 2 = w 0 ∧ ∀ p, p < n → I (g + 1) p = w (4 + 5 * p) ∧ ∀ j : Nat, (j : Int) < (w (4 + 5 * p)).toInt → I (g + 2) (3 * p + j) = w (5 + 5 * p + j)
def FrW (I I' : pmI) (g : Nat) : Prop := ∀ k, k < g ∨ g + 3 ≤ k → I' k = I k
theorem WR.congr {I I' : pmI} {g n : Nat} {w : Nat → Int32} (h : WR I g w n) (e : ∀ k, g ≤ k → k < g + 3 → I' k = I k) : WR I' g w n := by
  unfold WR at h ⊢
  rw [e g (by omega) (by omega), e (g + 1) (by omega) (by omega), e (g + 2) (by omega) (by omega)]
  exact h
theorem WR.congrW {I : pmI} {g n : Nat} {w w' : Nat → Int32} (h : WR I g w n) (hv : VL w n) (hn : n ≤ 8) (e0 : w' 0 = w 0) (e : ∀ p j, p < 8 → j < 4 → w' (4 + 5 * p + j) = w (4 + 5 * p + j)) : WR I g w' n := by
  obtain ⟨h1, h2⟩ := h
  refine ⟨by rw [e0]; exact h1, fun p hp => ?_⟩
  obtain ⟨c, c1, c2, c3, _⟩ := hv p hp
  obtain ⟨a, b⟩ := h2 p hp
  have ec := e p 0 (by omega) (by omega)
  simp only [Nat.add_zero] at ec
  refine ⟨by rw [ec]; exact a, fun j hj => ?_⟩
  rw [ec] at hj
  rw [b j hj, show 5 + 5 * p + j = 4 + 5 * p + (1 + j) by omega, e p (1 + j) (by omega) (by omega)]
