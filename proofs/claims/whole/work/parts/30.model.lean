/-! the reference's object -/
def MG (S : pmS) (P : pmP) (m : Nat) : Prop := OB S m 10 ∧ (P m 0 = some (m + 1) ∧ P m 1 = some (m + 2) ∧ P m 2 = some (m + 3) ∧ P m 3 = some (m + 4) ∧ P m 5 = some (m + 5) ∧ P m 13 = some (m + 6) ∧ P m 14 = some (m + 7) ∧ P m 15 = some (m + 8) ∧ P m 16 = some (m + 9) ∧ P m 18 = some (m + 10) ∧ P m 19 = some (m + 11) ∧ P m 20 = some (m + 12) ∧ P m 21 = some (m + 13) ∧ P m 22 = some (m + 14) ∧ P m 23 = some (m + 15)) ∧ (AR S (m + 1) 11 8 ∧ AR S (m + 2) 11 8 ∧ AR S (m + 3) 11 320 ∧ AR S (m + 4) 11 40 ∧ AR S (m + 5) 11 80 ∧ AR S (m + 6) 11 124 ∧ AR S (m + 7) 11 124 ∧ AR S (m + 8) 11 124 ∧ AR S (m + 9) 11 2976 ∧ AR S (m + 10) 11 248 ∧ AR S (m + 11) 12 2 ∧ AR S (m + 12) 11 8 ∧ AR S (m + 13) 11 8 ∧ AR S (m + 14) 11 4 ∧ AR S (m + 15) 11 16)
/-- nothing is told yet -/
def V0 (w : Nat → Int32) : Prop := w 0 = 0 ∧ w 1 = 0 ∧ w 2 = 0 ∧ w 3 = 0 ∧ ∀ p, p < 8 → w (8 + 5 * p) = 0
/-- what is noted ahead of an act -/
def noteP (past w : Nat → Int32) (a : Nat) : Nat → Int32 := if a = 24 then va_cpy w (va_cpy past past 124 0 2852) 0 2852 124 else va_cpy w past 0 (124 * a) 124
def noteA (a : Nat) : Nat := if a = 24 then 24 else a + 1
/-- an act of the reference: noted, and w' now -/
def ActM (I I' : pmI) (m a : Nat) (w' : Nat → Int32) : Prop := (∀ k, k ≠ m → k ≠ m + 6 → k ≠ m + 9 → I' k = I k) ∧ (∀ j, j ≠ 17 → I' m j = I m j) ∧ I' m 17 = iN (noteA a) ∧ I' (m + 9) = noteP (I (m + 9)) (I (m + 6)) a ∧ I' (m + 6) = w'
/-- the page that is shown -/
def shwF (x : Nat → Int32) : Int32 := x (48 + 10 * tn (x 2) + tn (x (47 + 10 * tn (x 2))))
theorem Nw.shw {x : Nat → Int32} {t s p : Nat} (h : Nw x t s p) : shwF x = x (48 + 10 * t + s) := by
  obtain ⟨h1, _, h2, _, h3, _⟩ := h
  have e1 : tn (x 2) = t := by unfold tn; omega
  have e2 : tn (x (47 + 10 * t)) = s := by unfold tn; omega
  unfold shwF
  rw [e1, e2]
