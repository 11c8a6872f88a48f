/-! asks, and their trace -/
def Tr (f : Int32) (arr : Nat → Int32) (l : List Int32) : Prop := f.toInt = (l.length : Int) ∧ ∀ (i : Nat) (v : Int32), l[i]? = some v → arr i = v
theorem Tr.snoc {f : Int32} {arr : Nat → Int32} {l : List Int32} {v : Int32} (h : Tr f arr l) (hl : l.length < 16) : Tr (iN (l.length + 1)) (va_up arr l.length v) (l ++ [v]) := by
  refine ⟨by rw [iN_ti (by omega), List.length_append]; simp, fun i u hu => ?_⟩
  by_cases hi : i < l.length
  · rw [List.getElem?_append_left hi] at hu
    rw [va_ne' (by omega)]; exact h.2 i u hu
  · have hlt := (List.getElem?_eq_some_iff.mp hu).1
    rw [List.length_append, List.length_singleton] at hlt
    obtain rfl : i = l.length := by omega
    rw [List.getElem?_append_right (Nat.le_refl _), Nat.sub_self] at hu
    cases hu
    exact va_at' rfl
theorem Tr.nil {arr : Nat → Int32} : Tr 0 arr [] := ⟨rfl, fun i v h => by simp at h⟩
def FrA (I I' : pmI) : Prop := (∀ k, k ≠ 594 → k ≠ 595 → I' k = I k) ∧ I' 594 2 = I 594 2
theorem FrA.tr {I I' I'' : pmI} (h : FrA I I') (h2 : FrA I' I'') : FrA I I'' := ⟨fun k a b => (h2.1 k a b).trans (h.1 k a b), h2.2.trans h.2⟩
def FrB (I I' : pmI) (m : Nat) : Prop := (∀ k, k ≠ m → k ≠ m + 15 → I' k = I k) ∧ ∀ j, j ≠ 24 → I' m j = I m j
theorem FrB.tr {I I' I'' : pmI} {m : Nat} (h : FrB I I' m) (h2 : FrB I' I'' m) : FrB I I'' m := ⟨fun k a b => (h2.1 k a b).trans (h.1 k a b), fun j a => (h2.2 j a).trans (h.2 j a)⟩
