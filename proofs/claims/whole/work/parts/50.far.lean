/-! pages as bits; how far pages are from one another -/
def bt (x : Int32) (p : Nat) : Prop := x.toBitVec.getLsbD p = true
theorem sh_of {p : Nat} (hp : p < 32) : (iN p &&& 31).toBitVec.smod 32 = BitVec.ofNat 32 p := by
  have h : ∀ q : Fin 32, (iN q.1 &&& 31).toBitVec.smod 32 = BitVec.ofNat 32 q.1 := by decide
  exact h ⟨p, hp⟩
theorem bt_val {x : Int32} {p : Nat} (hp : p < 32) : (x >>> (iN p &&& 31)) &&& 1 = if x.toBitVec.getLsbD p then 1 else 0 := by
  apply Int32.toBitVec_inj.mp
  rw [Int32.toBitVec_and, Int32.toBitVec_shiftRight, sh_of hp, BitVec.sshiftRight_eq', BitVec.toNat_ofNat, Nat.mod_eq_of_lt (by omega)]
  apply BitVec.eq_of_getLsbD_eq
  intro i hi
  rw [BitVec.getLsbD_and, BitVec.getLsbD_sshiftRight]
  have h1 : (1 : Int32).toBitVec = 1#32 := rfl
  have h0 : (0 : Int32).toBitVec = 0#32 := rfl
  cases i with
  | zero => cases hb : x.toBitVec.getLsbD p <;> simp [h0, h1, hb, hp]
  | succ i =>
    cases hb : x.toBitVec.getLsbD p <;> simp [h0, h1, BitVec.getLsbD_one]
theorem bt_ne {x : Int32} {p : Nat} (hp : p < 32) : ¬ (x >>> (iN p &&& 31)) &&& 1 = 0 ↔ bt x p := by
  rw [bt_val hp]
  unfold bt
  cases x.toBitVec.getLsbD p <;> simp
theorem bt_or {x y : Int32} {p : Nat} : bt (x ||| y) p ↔ bt x p ∨ bt y p := by
  unfold bt
  rw [Int32.toBitVec_or, BitVec.getLsbD_or]
  cases x.toBitVec.getLsbD p <;> cases y.toBitVec.getLsbD p <;> simp
theorem bt_one {p q : Nat} (hp : p < 32) (hq : q < 32) : bt (1 <<< (iN q &&& 31)) p ↔ p = q := by
  unfold bt
  rw [Int32.toBitVec_shiftLeft, sh_of hq, BitVec.shiftLeft_eq', BitVec.toNat_ofNat, Nat.mod_eq_of_lt (by omega), show (1 : Int32).toBitVec = 1#32 from rfl, BitVec.getLsbD_shiftLeft, BitVec.getLsbD_one]
  simp; omega
/-- what is reached from a page in at most k steps -/
def RC (w : Nat → Int32) (n f : Nat) : Nat → Nat → Prop
  | 0, q => q = f
  | k + 1, q => RC w n f k q ∨ ∃ p j, p < n ∧ j < tn (w (4 + 5 * p)) ∧ RC w n f k p ∧ tn (w (5 + 5 * p + j)) = q
def FC (w : Nat → Int32) (n f e q : Nat) : Prop := RC w n f e q ∧ ∀ e', e' < e → ¬ RC w n f e' q
section FAR
variable {w : Nat → Int32} {n f : Nat}
theorem RC.mono {e q : Nat} (h : RC w n f e q) : ∀ k, RC w n f (e + k) q := by
  intro k
  induction k with
  | zero => exact h
  | succ k ih => exact Or.inl ih
theorem RC.le {e k q : Nat} (h : RC w n f e q) (hk : e ≤ k) : RC w n f k q := by
  have := h.mono (k - e)
  rwa [show e + (k - e) = k by omega] at this
theorem RC.lt (hv : VL w n) (hf : f < n) : ∀ k q, RC w n f k q → q < n := by
  intro k
  induction k with
  | zero => intro q h; cases h; exact hf
  | succ k ih =>
    intro q h
    rcases h with h | ⟨p, j, h1, h2, h3, h4⟩
    · exact ih q h
    · obtain ⟨c, c1, c2, c3, c4⟩ := hv p h1
      have ec : tn (w (4 + 5 * p)) = c := by unfold tn; omega
      obtain ⟨q', e1, e2⟩ := c4 j (by omega)
      have : tn (w (5 + 5 * p + j)) = q' := by unfold tn; omega
      omega
theorem RC.first : ∀ k q, RC w n f k q → ∃ e, e ≤ k ∧ FC w n f e q := by
  intro k
  induction k with
  | zero => intro q h; exact ⟨0, Nat.le_refl _, h, fun e' he => absurd he (by omega)⟩
  | succ k ih =>
    intro q h
    by_cases hk : RC w n f k q
    · obtain ⟨e, h1, h2⟩ := ih q hk
      exact ⟨e, by omega, h2⟩
    · exact ⟨k + 1, Nat.le_refl _, h, fun e' he hr => hk (hr.le (by omega))⟩
theorem FC.uniq {e e' q : Nat} (h : FC w n f e q) (h' : FC w n f e' q) : e = e' := by
  rcases Nat.lt_trichotomy e e' with h1 | h1 | h1
  · exact absurd h.1 (h'.2 e h1)
  · exact h1
  · exact absurd h'.1 (h.2 e' h1)
theorem FC.prev {k q : Nat} (h : FC w n f (k + 1) q) : ∃ p j, p < n ∧ j < tn (w (4 + 5 * p)) ∧ FC w n f k p ∧ tn (w (5 + 5 * p + j)) = q := by
  obtain ⟨h1, h2⟩ := h
  rcases h1 with h1 | ⟨p, j, a, b, c, d⟩
  · exact absurd h1 (h2 k (by omega))
  · exact ⟨p, j, a, b, ⟨c, fun e' he hr => h2 (e' + 1) (by omega) (Or.inr ⟨p, j, a, b, hr, d⟩)⟩, d⟩
/-- how many of the first m pages are so -/
noncomputable def cntP (f : Nat → Prop) : Nat → Nat
  | 0 => 0
  | k + 1 => cntP f k + (@ite Nat (f k) (Classical.propDecidable _) 1 0)
theorem cntP_le (g : Nat → Prop) : ∀ m, cntP g m ≤ m := by
  intro m
  induction m with
  | zero => exact Nat.le_refl _
  | succ m ih => show cntP g m + _ ≤ _; split <;> omega
theorem cntP_mono {g g' : Nat → Prop} (h : ∀ q, g q → g' q) : ∀ m, cntP g m ≤ cntP g' m := by
  intro m
  induction m with
  | zero => exact Nat.le_refl _
  | succ m ih =>
    show cntP g m + (@ite Nat (g m) (Classical.propDecidable _) 1 0) ≤ cntP g' m + (@ite Nat (g' m) (Classical.propDecidable _) 1 0)
    by_cases hg : g m
    · rw [if_pos hg, if_pos (h m hg)]; omega
    · rw [if_neg hg]; omega
theorem cntP_lt {g g' : Nat → Prop} (h : ∀ q, g q → g' q) {q : Nat} (h1 : g' q) (h2 : ¬ g q) : ∀ m, q < m → cntP g m + 1 ≤ cntP g' m := by
  intro m
  induction m with
  | zero => intro hq; omega
  | succ m ih =>
    intro hq
    show cntP g m + (@ite Nat (g m) (Classical.propDecidable _) 1 0) + 1 ≤ cntP g' m + (@ite Nat (g' m) (Classical.propDecidable _) 1 0)
    by_cases hqm : q = m
    · subst hqm
      rw [if_neg h2, if_pos h1]
      have := cntP_mono h q
      omega
    · have := ih (by omega)
      by_cases hg : g m
      · rw [if_pos hg, if_pos (h m hg)]; omega
      · rw [if_neg hg]; omega
theorem FC.cnt (hv : VL w n) (hf : f < n) : ∀ k q, FC w n f k q → k + 1 ≤ cntP (RC w n f k) n := by
  intro k
  induction k with
  | zero =>
    intro q h
    have := cntP_lt (g := fun _ => False) (g' := RC w n f 0) (fun _ z => z.elim) h.1 (fun z => z) n (RC.lt hv hf 0 q h.1)
    omega
  | succ k ih =>
    intro q h
    obtain ⟨p, j, a, b, c, d⟩ := h.prev
    have h1 := ih p c
    have h2 := cntP_lt (g := RC w n f k) (g' := RC w n f (k + 1)) (fun _ z => Or.inl z) h.1 (h.2 k (by omega)) n (RC.lt hv hf (k + 1) q h.1)
    omega
theorem FC.ltn (hv : VL w n) (hf : f < n) {k q : Nat} (h : FC w n f k q) : k < n := by
  have h1 := FC.cnt hv hf k q h
  have h2 := cntP_le (RC w n f k) n
  omega
end FAR
noncomputable def farI (w : Nat → Int32) (n f t : Nat) : Int32 := @dite Int32 (∃ e, FC w n f e t) (Classical.propDecidable _) (fun h => iN h.choose) (fun _ => -1000000)
theorem farI_is {w : Nat → Int32} {n f t e : Nat} (h : FC w n f e t) : farI w n f t = iN e := by
  have hx : ∃ e, FC w n f e t := ⟨e, h⟩
  unfold farI
  rw [dif_pos hx]
  exact congrArg iN (hx.choose_spec.uniq h)
theorem farI_no {w : Nat → Int32} {n f t : Nat} (h : ∀ e, ¬ FC w n f e t) : farI w n f t = -1000000 := by
  unfold farI
  rw [dif_neg (fun ⟨e, he⟩ => h e he)]
noncomputable def bitsI (g : Nat → Prop) : Nat → Int32
  | 0 => 0
  | k + 1 => @ite Int32 (g k) (Classical.propDecidable _) (bitsI g k ||| (1 <<< (iN k &&& 31))) (bitsI g k)
/-- what a page is known to be far, behind k rounds -/
def DA (w : Nat → Int32) (n f k : Nat) (a : Nat → Int32) : Prop := ∀ q, q < n → (∃ e, e ≤ k ∧ FC w n f e q ∧ a q = iN e) ∨ (¬ RC w n f k q ∧ a q = -1000000)
def EB (w : Nat → Int32) (n f k p j q : Nat) : Prop := ∃ p' j', p' < n ∧ j' < tn (w (4 + 5 * p')) ∧ (p' < p ∨ p' = p ∧ j' < j) ∧ FC w n f k p' ∧ tn (w (5 + 5 * p' + j')) = q
def DB (w : Nat → Int32) (n f k p j : Nat) (a : Nat → Int32) : Prop := ∀ q, q < n → (∃ e, e ≤ k ∧ FC w n f e q ∧ a q = iN e) ∨ (¬ RC w n f k q ∧ EB w n f k p j q ∧ a q = iN (k + 1)) ∨ (¬ RC w n f k q ∧ ¬ EB w n f k p j q ∧ a q = -1000000)
section FAR2
variable {w : Nat → Int32} {n f k : Nat} {a : Nat → Int32}
theorem DA.start (h : DA w n f k a) : DB w n f k 0 0 a := by
  intro q hq
  rcases h q hq with h1 | ⟨h1, h2⟩
  · exact Or.inl h1
  · exact Or.inr (Or.inr ⟨h1, fun ⟨_, _, _, _, e, _⟩ => by omega, h2⟩)
theorem DB.next {p c : Nat} (h : DB w n f k p c a) (hc : tn (w (4 + 5 * p)) = c) : DB w n f k (p + 1) 0 a := by
  have e : ∀ q, EB w n f k (p + 1) 0 q ↔ EB w n f k p c q := fun q =>
    ⟨fun ⟨p', j', a1, a2, a3, a4⟩ => ⟨p', j', a1, a2, by
        by_cases hp : p' = p
        · subst hp; exact Or.inr ⟨rfl, by omega⟩
        · exact Or.inl (by omega), a4⟩, fun ⟨p', j', a1, a2, a3, a4⟩ => ⟨p', j', a1, a2, Or.inl (by omega), a4⟩⟩
  intro q hq
  rw [e q]
  exact h q hq
theorem DB.fin (h : DB w n f k n 0 a) : DA w n f (k + 1) a := by
  intro q hq
  rcases h q hq with ⟨e, h1, h2, h3⟩ | ⟨h1, ⟨p', j', a1, a2, a3, a4, a5⟩, h3⟩ | ⟨h1, h2, h3⟩
  · exact Or.inl ⟨e, by omega, h2, h3⟩
  · exact Or.inl ⟨k + 1, Nat.le_refl _, ⟨Or.inr ⟨p', j', a1, a2, a4.1, a5⟩, fun e' he hr => h1 (hr.le (by omega))⟩, h3⟩
  · refine Or.inr ⟨fun hr => ?_, h3⟩
    have hF : FC w n f (k + 1) q := ⟨hr, fun e' he hr' => h1 (hr'.le (by omega))⟩
    obtain ⟨p, j, b1, b2, b3, b4⟩ := hF.prev
    exact h2 ⟨p, j, b1, b2, Or.inl b1, b3, b4⟩
theorem iN_none {e : Nat} (h : e < 100) : ¬ iN e = -1000000 := by
  intro z
  have := congrArg Int32.toInt z
  rw [iN_ti (by omega)] at this
  simp only [Int32.reduceToInt] at this
  omega
/-- whether a page is at k, as the row tells -/
theorem DB.at {p j q : Nat} (h : DB w n f k p j a) (hq : q < n) (hk : k < 50) : a q = iN k ↔ FC w n f k q := by
  rcases h q hq with ⟨e, h1, h2, h3⟩ | ⟨h1, h2, h3⟩ | ⟨h1, h2, h3⟩
  · rw [h3, iN_eq (by omega) (by omega)]
    exact ⟨fun z => z ▸ h2, fun z => h2.uniq z⟩
  · rw [h3, iN_eq (by omega) (by omega)]
    exact ⟨fun z => by omega, fun z => absurd z.1 h1⟩
  · rw [h3]
    exact ⟨fun z => absurd z.symm (iN_none (by omega)), fun z => absurd z.1 h1⟩
theorem DB.stepT {p j q : Nat} (h : DB w n f k p j a) (hp : p < n) (hj : j < tn (w (4 + 5 * p))) (hq : tn (w (5 + 5 * p + j)) = q) (hqn : q < n) (hk : k < 50) (h1 : FC w n f k p) (h2 : a q = -1000000) : DB w n f k p (j + 1) (va_up a q (iN (k + 1))) := by
  have m : ∀ q, EB w n f k p j q → EB w n f k p (j + 1) q := fun q ⟨p', j', a1, a2, a3, a4⟩ => ⟨p', j', a1, a2, by omega, a4⟩
  intro r hr
  by_cases hrq : r = q
  · subst hrq
    rw [va_at' rfl]
    rcases h r hr with ⟨e, g1, g2, g3⟩ | ⟨g1, g2, g3⟩ | ⟨g1, g2, g3⟩
    · exact absurd (g3.symm.trans h2) (iN_none (by omega))
    · exact absurd (g3.symm.trans h2) (iN_none (by omega))
    · exact Or.inr (Or.inl ⟨g1, ⟨p, j, hp, hj, Or.inr ⟨rfl, by omega⟩, h1, hq⟩, rfl⟩)
  · rw [va_ne' hrq]
    rcases h r hr with g | ⟨g1, g2, g3⟩ | ⟨g1, g2, g3⟩
    · exact Or.inl g
    · exact Or.inr (Or.inl ⟨g1, m r g2, g3⟩)
    · refine Or.inr (Or.inr ⟨g1, fun ⟨p', j', a1, a2, a3, a4, a5⟩ => g2 ⟨p', j', a1, a2, ?_, a4, a5⟩, g3⟩)
      by_cases hpp : p' = p
      · subst hpp
        refine Or.inr ⟨rfl, ?_⟩
        by_cases hjj : j' = j
        · subst hjj; exact absurd (a5.symm.trans hq) hrq
        · omega
      · exact Or.inl (by omega)
theorem DB.stepF {p j q : Nat} (h : DB w n f k p j a) (hq : tn (w (5 + 5 * p + j)) = q) (h1 : ¬ (FC w n f k p ∧ a q = -1000000)) : DB w n f k p (j + 1) a := by
  have m : ∀ q, EB w n f k p j q → EB w n f k p (j + 1) q := fun q ⟨p', j', a1, a2, a3, a4⟩ => ⟨p', j', a1, a2, by omega, a4⟩
  intro r hr
  rcases h r hr with g | ⟨g1, g2, g3⟩ | ⟨g1, g2, g3⟩
  · exact Or.inl g
  · exact Or.inr (Or.inl ⟨g1, m r g2, g3⟩)
  · refine Or.inr (Or.inr ⟨g1, fun ⟨p', j', a1, a2, a3, a4, a5⟩ => g2 ⟨p', j', a1, a2, ?_, a4, a5⟩, g3⟩)
    by_cases hpp : p' = p
    · subst hpp
      refine Or.inr ⟨rfl, ?_⟩
      by_cases hjj : j' = j
      · subst hjj
        rw [a5] at hq
        subst hq
        exact absurd ⟨a4, g3⟩ h1
      · omega
    · exact Or.inl (by omega)
theorem DA.far (hv : VL w n) (hf : f < n) (h : DA w n f n a) {q : Nat} (hq : q < n) : a q = farI w n f q := by
  rcases h q hq with ⟨e, h1, h2, h3⟩ | ⟨h1, h2⟩
  · rw [h3, farI_is h2]
  · rw [h2, farI_no (fun e he => h1 (he.1.le (Nat.le_of_lt (he.ltn hv hf))))]
end FAR2
def EW (w : Nat → Int32) (n : Nat) (g : Nat → Prop) (p j q : Nat) : Prop := ∃ p' j', p' < n ∧ j' < tn (w (4 + 5 * p')) ∧ (p' < p ∨ p' = p ∧ j' < j) ∧ g p' ∧ tn (w (5 + 5 * p' + j')) = q
section NEIGH
variable {w : Nat → Int32} {n : Nat} {g : Nat → Prop} {p j q c : Nat}
theorem EW_0 : ¬ EW w n g 0 0 q := fun ⟨_, _, _, _, e, _⟩ => by omega
theorem EW_n : EW w n g n 0 q ↔ ∃ p j, p < n ∧ j < tn (w (4 + 5 * p)) ∧ g p ∧ tn (w (5 + 5 * p + j)) = q :=
  ⟨fun ⟨p', j', a, b, _, d, e⟩ => ⟨p', j', a, b, d, e⟩, fun ⟨p', j', a, b, d, e⟩ => ⟨p', j', a, b, Or.inl a, d, e⟩⟩
theorem EW_next (hc : tn (w (4 + 5 * p)) = c) : EW w n g p c q ↔ EW w n g (p + 1) 0 q :=
  ⟨fun ⟨p', j', a1, a2, a3, a4⟩ => ⟨p', j', a1, a2, Or.inl (by omega), a4⟩, fun ⟨p', j', a1, a2, a3, a4⟩ => ⟨p', j', a1, a2, by
        by_cases hp : p' = p
        · subst hp; exact Or.inr ⟨rfl, by omega⟩
        · exact Or.inl (by omega), a4⟩⟩
theorem EW_T (hp : p < n) (hj : j < tn (w (4 + 5 * p))) (hg : g p) : EW w n g p (j + 1) q ↔ EW w n g p j q ∨ q = tn (w (5 + 5 * p + j)) := by
  constructor
  · rintro ⟨p', j', a1, a2, a3, a4, a5⟩
    by_cases hpp : p' = p
    · subst hpp
      by_cases hjj : j' = j
      · subst hjj; exact Or.inr a5.symm
      · exact Or.inl ⟨p', j', a1, a2, Or.inr ⟨rfl, by omega⟩, a4, a5⟩
    · exact Or.inl ⟨p', j', a1, a2, Or.inl (by omega), a4, a5⟩
  · rintro (⟨p', j', a1, a2, a3, a4, a5⟩ | h)
    · exact ⟨p', j', a1, a2, by omega, a4, a5⟩
    · exact ⟨p, j, hp, hj, Or.inr ⟨rfl, by omega⟩, hg, h.symm⟩
theorem EW_F (hg : ¬ g p) : EW w n g p (j + 1) q ↔ EW w n g p j q := by
  constructor
  · rintro ⟨p', j', a1, a2, a3, a4, a5⟩
    by_cases hpp : p' = p
    · subst hpp; exact absurd a4 hg
    · exact ⟨p', j', a1, a2, Or.inl (by omega), a4, a5⟩
  · rintro ⟨p', j', a1, a2, a3, a4, a5⟩
    exact ⟨p', j', a1, a2, by omega, a4, a5⟩
end NEIGH
