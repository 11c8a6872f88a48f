/-! the law's invariant: how the class's cells stand to the reference's -/
theorem Vd.e4 {w w' : Nat → Int32} {n T t c : Nat} (h : Vd w n T t c) (e : E4 w' w) : Vd w' n T t c := by
  obtain ⟨⟨h0, hn2, hn8⟩, ⟨h1, hT1, hT5⟩, ⟨h2, ht⟩, ⟨h3, hc⟩, hl, htv, hcv, hv⟩ := h
  exact ⟨⟨by rw [e _ (by omega)]; exact h0, hn2, hn8⟩, ⟨by rw [e _ (by omega)]; exact h1, hT1, hT5⟩, ⟨by rw [e _ (by omega)]; exact h2, ht⟩, ⟨by rw [e _ (by omega)]; exact h3, hc⟩, hl.congr hn8 (fun q j _ _ => e _ (by omega)), fun i hi => (htv i hi).congr (fun j _ => e _ (by omega)), fun i hi => (hcv i hi).congr (fun j _ => e _ (by omega)), hv.congr (fun q _ => e _ (by omega))⟩
theorem WR.e4 {I : pmI} {g n : Nat} {w w' : Nat → Int32} (h : WR I g w n) (hv : VL w n) (hn : n ≤ 8) (e : E4 w' w) : WR I g w' n := h.congrW hv hn (e 0 (by omega)) (fun p j hp hj => e _ (by omega))
theorem DR.e4 {I : pmI} {P : pmP} {d n T t c : Nat} {w w' : Nat → Int32} (h : DR I P d w T c) (hV : Vd w n T t c) (e : E4 w' w) : DR I P d w' T c := by
  obtain ⟨h1, h2, h3, h4, h5, h6⟩ := h
  obtain ⟨v1, v2, v3, v4, v5, v6, v7, v8⟩ := hV
  exact ⟨by rw [e 1 (by omega)]; exact h1, by rw [e 2 (by omega)]; exact h2, by rw [e 3 (by omega)]; exact h3, fun i hi u hu => (h4 i hi u hu).congrW (fun j hj => e _ (by omega)) (v6 i hi).l6, fun i hi u hu => (h5 i hi u hu).congrW (fun j hj => e _ (by omega)) (v7 i hi).l6, fun p hp => by rw [e _ (by omega)]; exact h6 p hp⟩
theorem E4.cpy {w old : Nat → Int32} : E4 (va_cpy w old 0 0 124) w := fun i hi => by rw [cpy_in (by omega)]; congr 1; omega
theorem E4.symm {f g : Nat → Int32} (h : E4 f g) : E4 g f := fun i hi => (h i hi).symm
def LR (I : pmI) : Prop := ∀ k, k < 8 → ((I (596 + 2 * k) 1 = 0 ∧ I 661 k = -1000000) ∨ (I (596 + 2 * k) 1 = 1 ∧ I 661 k = I (596 + 2 * k) 2 ∧ ¬ I 661 k = -1000000 ∧ ∀ i, i < 40 → I (597 + 2 * k) i = I 663 (40 * k + i))) ∧ I 662 k = I (596 + 2 * k) 3 ∧ ∃ z : Nat, (I 662 k).toInt = (z : Int) ∧ z ≤ 40
def LT (I : pmI) : Prop := I 2 3 = I 660 6 ∧ I 2 4 = I 660 7 ∧ ∃ L : Nat, (I 2 3).toInt = (L : Int) ∧ L ≤ 80 ∧ ∀ i, i < L → I 3 i = I 665 i ∧ ∃ b : Nat, (I 3 i).toInt = (b : Int) ∧ b ≤ 255
def pastR (I : pmI) (j : Nat) : Nat → Int32 := fun i => I 669 (124 * j + i)
def imgR (I : pmI) (k : Nat) : Nat → Int32 := fun i => I 670 (124 * k + i)
def LH (I : pmI) (P : pmP) (n nx a : Nat) : Prop := ∀ j, j < a → ∃ T t c, Vd (pastR I j) n T t c ∧ WR I 27 (pastR I j) n ∧ DR I P (52 + 20 * ((nx + 25 - a + j) % 25)) (pastR I j) T c
def LA (I : pmI) (P : pmP) : Prop := I 50 2 = I 660 17 ∧ ∃ nx a : Nat, (I 50 1).toInt = (nx : Int) ∧ nx < 25 ∧ (I 50 2).toInt = (a : Int) ∧ a ≤ 24 ∧ ((∃ n T t c, Vd (I 666) n T t c ∧ WR I 27 (I 666) n ∧ DR I P 30 (I 666) T c ∧ LH I P n nx a) ∨ (a = 0 ∧ V0 (I 666) ∧ I 27 2 = 0 ∧ DR I P 30 (I 666) 0 0))
def LG (I : pmI) (P : pmP) : Prop := ∀ k, k < 2 → (I (612 + 24 * k) 2 = 0 ∧ I 671 k = 0) ∨ (¬ I (612 + 24 * k) 2 = 0 ∧ ¬ I 671 k = 0 ∧ ∃ n T t c, Vd (imgR I k) n T t c ∧ WR I (613 + 24 * k) (imgR I k) n ∧ DR I P (616 + 24 * k) (imgR I k) T c)
def LQ (I : pmI) : Prop := ∃ l : List Int32, l.length ≤ 16 ∧ Tr (I 594 1) (I 595) l ∧ Tr (I 660 24) (I 675) l
def LI (I : pmI) (P : pmP) : Prop := I 0 8 = I 660 4 ∧ LR I ∧ LT I ∧ LA I P ∧ LG I P ∧ LQ I
def LW (S : pmS) (I : pmI) (P : pmP) : Prop := S.1 = 676 ∧ XG S P ∧ MG S P 660 ∧ LI I P
section LAWS
variable {S : pmS} {I J : pmI} {P Q : pmP}
theorem LR.fr (h : LR I) (e : ∀ k, 596 ≤ k → k ≤ 611 → J k = I k) (e1 : J 661 = I 661) (e2 : J 662 = I 662) (e3 : J 663 = I 663) : LR J := by
  intro k hk
  rw [e (596 + 2 * k) (by omega) (by omega), e (597 + 2 * k) (by omega) (by omega), e1, e2, e3]
  exact h k hk
theorem LT.fr (h : LT I) (e1 : J 2 3 = I 2 3) (e2 : J 2 4 = I 2 4) (e3 : J 3 = I 3) (e4 : J 660 6 = I 660 6) (e5 : J 660 7 = I 660 7) (e6 : J 665 = I 665) : LT J := by
  unfold LT; rw [e1, e2, e3, e4, e5, e6]; exact h
theorem XG.dk (h : XG S P) : DG S P 30 := h.2.2.2.2.1
theorem XG.hd (h : XG S P) {i : Nat} (hi : i < 25) : DG S P (52 + 20 * i) := (h.2.2.2.2.2.1.2.2.2 i hi).2
theorem XG.im (h : XG S P) {k : Nat} (hk : k < 2) : DG S P (616 + 24 * k) := (h.2.2.2.2.2.2.1.2 k hk).2.2.2.2.2
theorem LA.fr (h : LA I P) (hX : XG S P) (e1 : J 50 1 = I 50 1) (e2 : J 50 2 = I 50 2) (e3 : J 660 17 = I 660 17) (e4 : J 666 = I 666) (e5 : J 669 = I 669) (e6 : ∀ k, 27 ≤ k → k < 50 → J k = I k) (e7 : ∀ k, 52 ≤ k → k < 552 → J k = I k) (q6 : ∀ k, 30 ≤ k → k < 50 → Q k = P k) (q7 : ∀ k, 52 ≤ k → k < 552 → Q k = P k) : LA J Q := by
  obtain ⟨h1, nx, a, h2, h3, h4, h5, h6⟩ := h
  have ep : ∀ j, pastR J j = pastR I j := fun j => by unfold pastR; rw [e5]
  refine ⟨by rw [e2, e3]; exact h1, nx, a, by rw [e1]; exact h2, h3, by rw [e2]; exact h4, h5, ?_⟩
  rw [e4]
  rcases h6 with ⟨n, T, t, c, v1, v2, v3, v4⟩ | ⟨v0, v1, v2, v3⟩
  · left
    refine ⟨n, T, t, c, v1, v2.congr (fun k q1 q2 => e6 k (by omega) (by omega)), v3.congr hX.dk v1.2.1.2.2 v1.2.2.2.1.2 (fun k q1 q2 => q6 k (by omega) (by omega)) (fun k q1 q2 => e6 k (by omega) (by omega)), fun j hj => ?_⟩
    obtain ⟨T', t', c', x1, x2, x3⟩ := v4 j hj
    have hm := Nat.mod_lt (nx + 25 - a + j) (show 0 < 25 by omega)
    rw [ep]
    exact ⟨T', t', c', x1, x2.congr (fun k q1 q2 => e6 k (by omega) (by omega)), x3.congr (hX.hd hm) x1.2.1.2.2 x1.2.2.2.1.2 (fun k q1 q2 => q7 k (by omega) (by omega)) (fun k q1 q2 => e7 k (by omega) (by omega))⟩
  · right
    exact ⟨v0, v1, by rw [e6 27 (by omega) (by omega)]; exact v2, v3.congr hX.dk (by omega) (by omega) (fun k q1 q2 => q6 k (by omega) (by omega)) (fun k q1 q2 => e6 k (by omega) (by omega))⟩
theorem LG.fr (h : LG I P) (hX : XG S P) (e1 : J 670 = I 670) (e2 : J 671 = I 671) (e3 : ∀ k, 612 ≤ k → k < 660 → J k = I k) (q3 : ∀ k, 612 ≤ k → k < 660 → Q k = P k) : LG J Q := by
  intro k hk
  have ep : imgR J k = imgR I k := by unfold imgR; rw [e1]
  rw [e3 (612 + 24 * k) (by omega) (by omega), e2, ep]
  rcases h k hk with h1 | ⟨h1, h2, n, T, t, c, x1, x2, x3⟩
  · exact Or.inl h1
  · exact Or.inr ⟨h1, h2, n, T, t, c, x1, x2.congr (fun k q1 q2 => e3 k (by omega) (by omega)), x3.congr (hX.im hk) x1.2.1.2.2 x1.2.2.2.1.2 (fun k q1 q2 => q3 k (by omega) (by omega)) (fun k q1 q2 => e3 k (by omega) (by omega))⟩
theorem LQ.fr (h : LQ I) (e1 : J 594 1 = I 594 1) (e2 : J 595 = I 595) (e3 : J 660 24 = I 660 24) (e4 : J 675 = I 675) : LQ J := by
  unfold LQ; rw [e1, e2, e3, e4]; exact h
/-- cells that the invariant speaks of -/
def Kc (k : Nat) : Prop := k ≤ 552 ∨ (594 ≤ k ∧ k ≤ 663) ∨ k = 665 ∨ k = 666 ∨ (669 ≤ k ∧ k ≤ 671) ∨ k = 675
theorem LI.fr (h : LI I P) (hX : XG S P) (e : ∀ k, Kc k → k ≠ 0 → k ≠ 660 → J k = I k) (e0 : J 0 8 = J 660 4) (e6 : J 660 6 = I 660 6) (e7 : J 660 7 = I 660 7) (e17 : J 660 17 = I 660 17) (e24 : J 660 24 = I 660 24) (q : ∀ k, k ≤ 552 ∨ (594 ≤ k ∧ k ≤ 663) → Q k = P k) : LI J Q := by
  obtain ⟨h1, h2, h3, h4, h5, h6⟩ := h
  have ee : ∀ k, (k ≤ 552 ∨ (594 ≤ k ∧ k ≤ 663) ∨ k = 665 ∨ k = 666 ∨ (669 ≤ k ∧ k ≤ 671) ∨ k = 675) → k ≠ 0 → k ≠ 660 → J k = I k := e
  refine ⟨e0, h2.fr (fun k a b => ee k (by omega) (by omega) (by omega)) (ee _ (by omega) (by omega) (by omega)) (ee _ (by omega) (by omega) (by omega)) (ee _ (by omega) (by omega) (by omega)), h3.fr (by rw [ee 2 (by omega) (by omega) (by omega)]) (by rw [ee 2 (by omega) (by omega) (by omega)]) (ee _ (by omega) (by omega) (by omega)) e6 e7 (ee _ (by omega) (by omega) (by omega)), h4.fr hX (by rw [ee 50 (by omega) (by omega) (by omega)]) (by rw [ee 50 (by omega) (by omega) (by omega)]) e17 (ee _ (by omega) (by omega) (by omega)) (ee _ (by omega) (by omega) (by omega)) (fun k a b => ee k (by omega) (by omega) (by omega)) (fun k a b => ee k (by omega) (by omega) (by omega)) (fun k a b => q k (by omega)) (fun k a b => q k (by omega)), h5.fr hX (ee _ (by omega) (by omega) (by omega)) (ee _ (by omega) (by omega) (by omega)) (fun k a b => ee k (by omega) (by omega) (by omega)) (fun k a b => q k (by omega)), h6.fr (by rw [ee 594 (by omega) (by omega) (by omega)]) (ee _ (by omega) (by omega) (by omega)) e24 (ee _ (by omega) (by omega) (by omega))⟩
/-- nothing that the invariant speaks of has changed -/
theorem LI.same (h : LI I P) (hX : XG S P) (e : ∀ k, Kc k → J k = I k) (q : ∀ k, k ≤ 552 ∨ (594 ≤ k ∧ k ≤ 663) → Q k = P k) : LI J Q := by
  have e0 : J 0 = I 0 := e 0 (Or.inl (by omega))
  have e6 : J 660 = I 660 := e 660 (Or.inr (Or.inl (by omega)))
  exact h.fr hX (fun k hk _ _ => e k hk) (by rw [e0, e6]; exact h.1) (by rw [e6]) (by rw [e6]) (by rw [e6]) (by rw [e6]) q
theorem LW.same (h : LW S I P) (e : ∀ k, Kc k → J k = I k) : LW S J P := ⟨h.1, h.2.1, h.2.2.1, h.2.2.2.same h.2.1 e (fun _ _ => rfl)⟩
/-- both keep the same finding -/
theorem LW.st (h : LW S I P) {v : Int32} (e : ∀ k, Kc k → k ≠ 0 → k ≠ 660 → J k = I k) (e0 : J 0 8 = v) (e6 : J 660 = va_up (I 660) 4 v) : LW S J P :=
  ⟨h.1, h.2.1, h.2.2.1, h.2.2.2.fr h.2.1 e (by rw [e0, e6, va_at' rfl]) (by rw [e6, va_ne' (by omega)]) (by rw [e6, va_ne' (by omega)]) (by rw [e6, va_ne' (by omega)]) (by rw [e6, va_ne' (by omega)]) (fun _ _ => rfl)⟩
theorem MG.fr {m : Nat} (h : MG S P m) (e : Q m = P m) : MG S Q m := by
  obtain ⟨g0, g1, g2⟩ := h
  exact ⟨g0, by rw [e]; exact g1, g2⟩
/-- an act of both -/
theorem LA.act {I' I'' : pmI} {P' : pmP} {n T t c T' t' c' nx a : Nat} {w' : Nat → Int32} (hX : XG S P) (hV : Vd (I 666) n T t c) (hW : WR I 27 (I 666) n) (hH : LH I P n nx a) (hnx25 : nx < 25) (ha24 : a ≤ 24) (hA : ActX S I I' P P' nx a (I 666) T c w' T' c') (hB : ActM I' I'' 660 a w') (hV' : Vd w' n T' t' c') (hK : w' 0 = I 666 0 ∧ ∀ p j, p < 8 → j < 4 → w' (4 + 5 * p + j) = I 666 (4 + 5 * p + j)) : LA I'' P' := by
  obtain ⟨f1, e1, e2, d1, d2, fp, g⟩ := hA
  obtain ⟨b1, b2, b3, b4, b5⟩ := hB
  have i6 : I' 666 = I 666 := f1 666 (by omega) (by omega)
  have i9 : I' 669 = I 669 := f1 669 (by omega) (by omega)
  have J1 : ∀ k, k ≠ 660 → k ≠ 666 → k ≠ 669 → I'' k = I' k := fun k q1 q2 q3 => b1 k q1 (by omega) (by omega)
  have hn25 := Nat.mod_lt (nx + 1) (show 0 < 25 by omega)
  have hna : noteA a ≤ 24 := by unfold noteA; split <;> omega
  have hW2 : ∀ x : Nat → Int32, WR I 27 x n → WR I'' 27 x n := fun x hx => hx.congr (fun k q1 q2 => (J1 k (by omega) (by omega) (by omega)).trans (f1 k (by omega) (by omega)))
  refine ⟨by rw [J1 50 (by omega) (by omega) (by omega), e2, show I'' 660 17 = iN (noteA a) from b3], (nx + 1) % 25, noteA a, by rw [J1 50 (by omega) (by omega) (by omega), e1]; exact iN_ti (by omega), hn25, by rw [J1 50 (by omega) (by omega) (by omega), e2]; exact iN_ti (by omega), hna, Or.inl ⟨n, T', t', c', ?_, ?_, ?_, ?_⟩⟩
  · rw [show I'' 666 = w' from b5]; exact hV'
  · rw [show I'' 666 = w' from b5]; exact hW2 _ (hW.congrW hV.2.2.2.2.1 hV.1.2.2 hK.1 hK.2)
  · rw [show I'' 666 = w' from b5]
    exact d2.congr g hV'.2.1.2.2 hV'.2.2.2.1.2 (fun _ _ _ => rfl) (fun k q1 q2 => J1 k (by omega) (by omega) (by omega))
  · have p9 : I'' 669 = noteP (I 669) (I 666) a := by rw [show I'' 669 = noteP (I' (660 + 9)) (I' (660 + 6)) a from b4, show I' (660 + 9) = I 669 from i9, show I' (660 + 6) = I 666 from i6]
    have slot : ∀ (j i : Nat), i < a → (nx + 25 - a + i) % 25 = ((nx + 1) % 25 + 25 - noteA a + j) % 25 → E4 (pastR I'' j) (pastR I i) → ∃ T t c, Vd (pastR I'' j) n T t c ∧ WR I'' 27 (pastR I'' j) n ∧ DR I'' P' (52 + 20 * (((nx + 1) % 25 + 25 - noteA a + j) % 25)) (pastR I'' j) T c := by
      intro j i hi es e4
      obtain ⟨T1, t1, c1, x1, x2, x3⟩ := hH i hi
      have hm := Nat.mod_lt (nx + 25 - a + i) (show 0 < 25 by omega)
      have hne : (nx + 25 - a + i) % 25 ≠ nx := by omega
      rw [← es]
      refine ⟨T1, t1, c1, x1.e4 e4, (hW2 _ x2).e4 x1.2.2.2.2.1 x1.1.2.2 e4, (x3.congr (hX.hd hm) x1.2.1.2.2 x1.2.2.2.1.2 (fun k q1 q2 => fp k (by omega) (by omega)) (fun k q1 q2 => ?_)).e4 x1 e4⟩
      rw [J1 k (by omega) (by omega) (by omega)]
      exact f1 k (by omega) (by omega)
    have last : ∀ j, nx = ((nx + 1) % 25 + 25 - noteA a + j) % 25 → E4 (pastR I'' j) (I 666) → ∃ T t c, Vd (pastR I'' j) n T t c ∧ WR I'' 27 (pastR I'' j) n ∧ DR I'' P' (52 + 20 * (((nx + 1) % 25 + 25 - noteA a + j) % 25)) (pastR I'' j) T c := by
      intro j es e4
      rw [← es]
      have hGd : DG S P' (52 + 20 * nx) := (hX.hd hnx25).congr (fun k q1 q2 => fp k (by omega) (by omega))
      exact ⟨T, t, c, hV.e4 e4, (hW2 _ hW).e4 hV.2.2.2.2.1 hV.1.2.2 e4, (d1.congr hGd hV.2.1.2.2 hV.2.2.2.1.2 (fun _ _ _ => rfl) (fun k q1 q2 => J1 k (by omega) (by omega) (by omega))).e4 hV e4⟩
    intro j hj
    by_cases ha : a = 24
    · have ena : noteA a = 24 := by unfold noteA; rw [if_pos ha]
      have enp : noteP (I 669) (I 666) a = va_cpy (I 666) (va_cpy (I 669) (I 669) 124 0 2852) 0 2852 124 := by unfold noteP; rw [if_pos ha]
      rw [ena] at hj
      by_cases hj2 : j = 23
      · refine last j (by rw [ena]; omega) (fun i hi => ?_)
        unfold pastR
        rw [p9, enp, cpy_in (by omega), show 0 + (124 * j + i - 2852) = i by omega]
      · refine slot j (j + 1) (by omega) (by rw [ena]; omega) (fun i hi => ?_)
        unfold pastR
        rw [p9, enp, cpy_off (by omega), cpy_in (by omega), show 124 + (124 * j + i - 0) = 124 * (j + 1) + i by omega]
    · have ena : noteA a = a + 1 := by unfold noteA; rw [if_neg ha]
      have enp : noteP (I 669) (I 666) a = va_cpy (I 666) (I 669) 0 (124 * a) 124 := by unfold noteP; rw [if_neg ha]
      rw [ena] at hj
      by_cases hj2 : j = a
      · refine last j (by rw [ena]; omega) (fun i hi => ?_)
        unfold pastR
        rw [p9, enp, cpy_in (by omega), show 0 + (124 * j + i - 124 * a) = i by subst hj2; omega]
      · refine slot j j (by omega) (by rw [ena]; omega) (fun i hi => ?_)
        unfold pastR
        rw [p9, enp, cpy_off (by omega)]
/-- what an act leaves as it was -/
theorem LW.act {I' I'' : pmI} {P' : pmP} {n T t c T' t' c' nx a : Nat} {w' : Nat → Int32} (h : LW S I P) (hV : Vd (I 666) n T t c) (hW : WR I 27 (I 666) n) (hH : LH I P n nx a) (hnx25 : nx < 25) (ha24 : a ≤ 24) (hA : ActX S I I' P P' nx a (I 666) T c w' T' c') (hB : ActM I' I'' 660 a w') (hV' : Vd w' n T' t' c') (hK : w' 0 = I 666 0 ∧ ∀ p j, p < 8 → j < 4 → w' (4 + 5 * p + j) = I 666 (4 + 5 * p + j)) : LW S I'' P' := by
  obtain ⟨hs, hX, hM, h1, h2, h3, h4, h5, h6⟩ := h
  have hA0 := hA
  obtain ⟨f1, e1, e2, d1, d2, fp, g⟩ := hA0
  have hB0 := hB
  obtain ⟨b1, b2, b3, b4, b5⟩ := hB0
  have J2 : ∀ k, k < 30 ∨ 552 ≤ k → k ≠ 660 → k ≠ 666 → k ≠ 669 → I'' k = I k := fun k q0 q1 q2 q3 => (b1 k q1 (by omega) (by omega)).trans (f1 k (by omega) (by omega))
  have J6 : ∀ j, j ≠ 17 → I'' 660 j = I 660 j := fun j hj => (b2 j hj).trans (by rw [f1 660 (by omega) (by omega)])
  have X' : XG S P' := hX.fr (Or.inl rfl) fp g
  refine ⟨hs, X', hM.fr (fp 660 (by omega) (by omega)), by rw [J2 0 (by omega) (by omega) (by omega) (by omega), J6 4 (by omega)]; exact h1, h2.fr (fun k q1 q2 => J2 k (by omega) (by omega) (by omega) (by omega)) (J2 _ (by omega) (by omega) (by omega) (by omega)) (J2 _ (by omega) (by omega) (by omega) (by omega)) (J2 _ (by omega) (by omega) (by omega) (by omega)), h3.fr (by rw [J2 2 (by omega) (by omega) (by omega) (by omega)]) (by rw [J2 2 (by omega) (by omega) (by omega) (by omega)]) (J2 _ (by omega) (by omega) (by omega) (by omega)) (J6 _ (by omega)) (J6 _ (by omega)) (J2 _ (by omega) (by omega) (by omega) (by omega)), LA.act hX hV hW hH hnx25 ha24 hA hB hV' hK, h5.fr hX (J2 _ (by omega) (by omega) (by omega) (by omega)) (J2 _ (by omega) (by omega) (by omega) (by omega)) (fun k q1 q2 => J2 k (by omega) (by omega) (by omega) (by omega)) (fun k q1 q2 => fp k (by omega) (by omega)), h6.fr (by rw [J2 594 (by omega) (by omega) (by omega) (by omega)]) (J2 _ (by omega) (by omega) (by omega) (by omega)) (J6 _ (by omega)) (J2 _ (by omega) (by omega) (by omega) (by omega))⟩
/-- a refused act leaves a desk of the ring that isn't kept -/
theorem LW.refused {I' : pmI} {nx : Nat} (h : LW S I P) (hnx : (I 50 1).toInt = (nx : Int)) (hnx25 : nx < 25) (hF : FrD I I' (52 + 20 * nx)) : LW S I' P := by
  obtain ⟨hs, hX, hM, h1, h2, h3, ⟨a0, nx', a', a1, a2, a3, a4, a5⟩, h5, h6⟩ := h
  obtain rfl : nx' = nx := by omega
  have F : ∀ k, k < 52 ∨ 552 ≤ k → I' k = I k := fun k hk => hF k (by omega)
  refine ⟨hs, hX, hM, by rw [F 0 (by omega), F 660 (by omega)]; exact h1, h2.fr (fun k q1 q2 => F k (by omega)) (F _ (by omega)) (F _ (by omega)) (F _ (by omega)), h3.fr (by rw [F 2 (by omega)]) (by rw [F 2 (by omega)]) (F _ (by omega)) (by rw [F 660 (by omega)]) (by rw [F 660 (by omega)]) (F _ (by omega)), ⟨by rw [F 50 (by omega), F 660 (by omega)]; exact a0, nx', a', by rw [F 50 (by omega)]; exact a1, a2, by rw [F 50 (by omega)]; exact a3, a4, ?_⟩, h5.fr hX (F _ (by omega)) (F _ (by omega)) (fun k q1 q2 => F k (by omega)) (fun _ _ _ => rfl), h6.fr (by rw [F 594 (by omega)]) (F _ (by omega)) (by rw [F 660 (by omega)]) (F _ (by omega))⟩
  rw [F 666 (by omega)]
  rcases a5 with ⟨n, T, t, c, v1, v2, v3, v4⟩ | ⟨v0, v1, v2, v3⟩
  · refine Or.inl ⟨n, T, t, c, v1, v2.congr (fun k q1 q2 => F k (by omega)), v3.congr hX.dk v1.2.1.2.2 v1.2.2.2.1.2 (fun _ _ _ => rfl) (fun k q1 q2 => F k (by omega)), fun j hj => ?_⟩
    obtain ⟨T1, t1, c1, x1, x2, x3⟩ := v4 j hj
    have ep : pastR I' j = pastR I j := by unfold pastR; rw [F 669 (by omega)]
    have hm := Nat.mod_lt (nx' + 25 - a' + j) (show 0 < 25 by omega)
    have hne : (nx' + 25 - a' + j) % 25 ≠ nx' := by omega
    rw [ep]
    exact ⟨T1, t1, c1, x1, x2.congr (fun k q1 q2 => F k (by omega)), x3.congr (hX.hd hm) x1.2.1.2.2 x1.2.2.2.1.2 (fun _ _ _ => rfl) (fun k q1 q2 => hF k (by omega))⟩
  · exact Or.inr ⟨v0, v1, by rw [F 27 (by omega)]; exact v2, v3.congr hX.dk (by omega) (by omega) (fun _ _ _ => rfl) (fun k q1 q2 => F k (by omega))⟩
end LAWS
theorem Vd.vkA {w : Nat → Int32} {n T t c : Nat} (h : Vd w n T t c) (hT : T < 5) (hc : 1 ≤ c) : VK w (againF w T c) n :=
  ⟨⟨_, _, _, h.again hT hc⟩, ⟨again_off (by omega) (by omega), fun p j hp hj => again_off (by omega) (by omega)⟩, fun i hi => again_off (by omega) (by omega)⟩
