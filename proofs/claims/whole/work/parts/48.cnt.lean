def cntR (f : Nat → Prop) [DecidablePred f] : Nat → Int32
  | 0 => 0
  | k + 1 => cntR f k + (if f k then 1 else 0)
theorem cntR_congr {f g : Nat → Prop} [DecidablePred f] [DecidablePred g] : ∀ k, (∀ j, j < k → (f j ↔ g j)) → cntR f k = cntR g k := by
  intro k
  induction k with
  | zero => intro _; rfl
  | succ k ih =>
    intro h
    show cntR f k + _ = cntR g k + _
    rw [ih (fun j hj => h j (by omega))]
    have := h k (by omega)
    by_cases hf : f k
    · rw [if_pos hf, if_pos (this.mp hf)]
    · rw [if_neg hf, if_neg (fun z => hf (this.mpr z))]
