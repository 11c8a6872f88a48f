/-! the class's cells, by their numbers -/
theorem iN_div {a b : Nat} (ha : a < 2147483648) (hb : b < 2147483648) : iN a / iN b = iN (a / b) := by
  have h1 : a / b ≤ a := Nat.div_le_self a b
  rw [ti_eq, Int32.toInt_div, iN_ti ha, iN_ti hb, iN_ti (by omega), ← Int.ofNat_tdiv]
  show Int.bmod ((a / b : Nat) : Int) 4294967296 = _
  rw [ti_bm]
  generalize a / b = q at h1 ⊢
  omega
theorem iN_rem {a b : Nat} (ha : a < 2147483648) (hb : b < 2147483648) : iN a - iN a / iN b * iN b = iN (a % b) := by
  have h2 : a / b * b ≤ a := Nat.div_mul_le_self a b
  rw [iN_div ha hb, iN_mul, iN_sub h2]
  congr 1
  have := Nat.div_add_mod a b
  rw [Nat.mul_comm] at this
  omega
def HG (S : pmS) (P : pmP) : Prop := OB S 50 3 ∧ P 50 0 = some 51 ∧ AR S 51 13 25 ∧ ∀ i, i < 25 → P 51 i = some (52 + 20 * i) ∧ DG S P (52 + 20 * i)
def IG (S : pmS) (P : pmP) : Prop := AR S 552 14 2 ∧ ∀ k, k < 2 → P 552 k = some (612 + 24 * k) ∧ OB S (612 + 24 * k) 4 ∧ P (612 + 24 * k) 0 = some (613 + 24 * k) ∧ P (612 + 24 * k) 1 = some (616 + 24 * k) ∧ WebG S P (613 + 24 * k) ∧ DG S P (616 + 24 * k)
def RG (S : pmS) (P : pmP) : Prop := AR S 1 15 8 ∧ ∀ r, r < 8 → P 1 r = some (596 + 2 * r) ∧ OB S (596 + 2 * r) 6 ∧ P (596 + 2 * r) 0 = some (597 + 2 * r) ∧ AR S (597 + 2 * r) 11 40
def RdG (S : pmS) (P : pmP) : Prop := OB S 2 5 ∧ P 2 0 = some 3 ∧ P 2 1 = some 4 ∧ P 2 2 = some 7 ∧ AR S 3 11 80 ∧ WebG S P 4 ∧ DG S P 7
def FG (S : pmS) (P : pmP) : Prop := OB S 553 2 ∧ (P 553 0 = some 554 ∧ P 553 1 = some 555 ∧ P 553 2 = some 556 ∧ P 553 3 = some 576 ∧ P 553 4 = some 577 ∧ P 553 5 = some 578 ∧ P 553 6 = some 580 ∧ P 553 7 = some 583) ∧ AR S 554 11 4 ∧ AR S 555 11 8 ∧ DG S P 556 ∧ AR S 576 11 8 ∧ AR S 577 16 5 ∧ TabG S P 578 ∧ WebG S P 580 ∧ AR S 583 11 12 ∧ ∀ i, i < 5 → P 577 i = some (584 + 2 * i) ∧ TabG S P (584 + 2 * i)
def AG (S : pmS) (P : pmP) : Prop := OB S 594 0 ∧ P 594 0 = some 595 ∧ AR S 595 11 16
def XG (S : pmS) (P : pmP) : Prop := (OB S 0 9 ∧ P 0 0 = some 1 ∧ P 0 1 = some 2 ∧ P 0 2 = some 27 ∧ P 0 3 = some 30 ∧ P 0 4 = some 50 ∧ P 0 5 = some 552 ∧ P 0 6 = some 553 ∧ P 0 7 = some 594) ∧ RG S P ∧ RdG S P ∧ WebG S P 27 ∧ DG S P 30 ∧ HG S P ∧ IG S P ∧ FG S P ∧ AG S P
theorem WebG.congr {S : pmS} {P P' : pmP} {g : Nat} (h : WebG S P g) (e : P' g = P g) : WebG S P' g := by
  obtain ⟨h1, h2, h3, h4⟩ := h
  exact ⟨h1, by rw [e]; exact h2, by rw [e]; exact h3, h4⟩
/-- the rows of tabs of one desk, of the two that act, may change -/
theorem XG.fr {S : pmS} {P P' : pmP} {d : Nat} (h : XG S P) (hd : d = 30 ∨ d = 556) (hP : FrP P P' d) (hG : DG S P' d) : XG S P' := by
  have e : ∀ k, k ≠ 31 → k ≠ 32 → k ≠ 557 → k ≠ 558 → P' k = P k := fun k a b c f => hP k (by omega) (by omega)
  obtain ⟨⟨a1, a2, a3, a4, a5, a6, a7, a8, a9⟩, ⟨b1, b2⟩, ⟨c1, c2, c3, c4, c5, c6, c7⟩, w, dd, ⟨h1, h2, h3, h4⟩, ⟨i1, i2⟩, ⟨f1, ⟨f2, f3, f4, f5, f6, f7, f8, f9⟩, f10, f11, f12, f13, f14, f15, f16, f17, f18⟩, ⟨g1, g2, g3⟩⟩ := h
  have D : ∀ x, x = 30 ∨ x = 556 → DG S P x → DG S P' x := fun x hx hg => by
    by_cases hxd : x = d
    · rw [hxd]; exact hG
    · exact hg.congr (fun k _ _ => hP k (by omega) (by omega))
  refine ⟨⟨a1, by rw [e 0 (by omega) (by omega) (by omega) (by omega)]; exact a2, by rw [e 0 (by omega) (by omega) (by omega) (by omega)]; exact a3, by rw [e 0 (by omega) (by omega) (by omega) (by omega)]; exact a4, by rw [e 0 (by omega) (by omega) (by omega) (by omega)]; exact a5, by rw [e 0 (by omega) (by omega) (by omega) (by omega)]; exact a6, by rw [e 0 (by omega) (by omega) (by omega) (by omega)]; exact a7, by rw [e 0 (by omega) (by omega) (by omega) (by omega)]; exact a8, by rw [e 0 (by omega) (by omega) (by omega) (by omega)]; exact a9⟩, ⟨b1, fun r hr => ?_⟩, ⟨c1, by rw [e 2 (by omega) (by omega) (by omega) (by omega)]; exact c2, by rw [e 2 (by omega) (by omega) (by omega) (by omega)]; exact c3, by rw [e 2 (by omega) (by omega) (by omega) (by omega)]; exact c4, c5, c6.congr (e 4 (by omega) (by omega) (by omega) (by omega)), c7.congr (fun k _ _ => e k (by omega) (by omega) (by omega) (by omega))⟩, w.congr (e 27 (by omega) (by omega) (by omega) (by omega)), D 30 (Or.inl rfl) dd, ⟨h1, by rw [e 50 (by omega) (by omega) (by omega) (by omega)]; exact h2, h3, fun i hi => ?_⟩, ⟨i1, fun k hk => ?_⟩, ⟨f1, ?_, f10, f11, D 556 (Or.inr rfl) f12, f13, f14, f15.congr (e 578 (by omega) (by omega) (by omega) (by omega)), f16.congr (e 580 (by omega) (by omega) (by omega) (by omega)), f17, fun i hi => ?_⟩, ⟨g1, by rw [e 594 (by omega) (by omega) (by omega) (by omega)]; exact g2, g3⟩⟩
  · rw [e 1 (by omega) (by omega) (by omega) (by omega), e (596 + 2 * r) (by omega) (by omega) (by omega) (by omega)]; exact b2 r hr
  · rw [e 51 (by omega) (by omega) (by omega) (by omega)]
    exact ⟨(h4 i hi).1, (h4 i hi).2.congr (fun k _ _ => e k (by omega) (by omega) (by omega) (by omega))⟩
  · rw [e 552 (by omega) (by omega) (by omega) (by omega), e (612 + 24 * k) (by omega) (by omega) (by omega) (by omega)]
    obtain ⟨x1, x2, x3, x4, x5, x6⟩ := i2 k hk
    exact ⟨x1, x2, x3, x4, x5.congr (e _ (by omega) (by omega) (by omega) (by omega)), x6.congr (fun q _ _ => e q (by omega) (by omega) (by omega) (by omega))⟩
  · rw [e 553 (by omega) (by omega) (by omega) (by omega)]; exact ⟨f2, f3, f4, f5, f6, f7, f8, f9⟩
  · rw [e 577 (by omega) (by omega) (by omega) (by omega)]
    exact ⟨(f18 i hi).1, (f18 i hi).2.congr (e _ (by omega) (by omega) (by omega) (by omega))⟩
/-- an act of the class: what stood is in the ring, and the desk stands to w' -/
def ActX (S : pmS) (I I' : pmI) (P P' : pmP) (nx a : Nat) (w : Nat → Int32) (T c : Nat) (w' : Nat → Int32) (T' c' : Nat) : Prop :=
  (∀ k, k < 30 ∨ 50 < k → k < 52 + 20 * nx ∨ 72 + 20 * nx ≤ k → I' k = I k) ∧ I' 50 1 = iN ((nx + 1) % 25) ∧ I' 50 2 = iN (noteA a) ∧ DR I' P' (52 + 20 * nx) w T c ∧ DR I' P' 30 w' T' c' ∧ FrP P P' 30 ∧ DG S P' 30
