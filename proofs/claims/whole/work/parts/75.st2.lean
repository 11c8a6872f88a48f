/-! rows, the tape, what fits: both sides -/
section STEPS2
variable {E : pmE} {S : pmS} {I : pmI} {P : pmP}
theorem st_fits (h : LW S I P) (page row i nn what : Int32) : ST E yX9_fits yX10_fits [.int page, .int row, .int i, .int nn, .int what] S I P := by
  have hR := h.2.2.2.2.1
  rcases h.webs with ⟨n, T, t, c, v1, v2, v3⟩ | ⟨v1, v2, v3⟩
  · have e4 : E4 (va_cpy (I 666) (I 668) 0 0 124) (I 666) := E4.cpy
    have ex : ∀ {q r K : Nat}, page.toInt = (q : Int) → q < n → row.toInt = (r : Int) → r < 8 → nn.toInt = (K : Int) → 1 ≤ K → K ≤ 12 → what.toInt ≤ 3 → 0 ≤ what.toInt → ∃ q r K e : Nat, page.toInt = (q : Int) ∧ q < n ∧ row.toInt = (r : Int) ∧ r < 8 ∧ nn.toInt = (K : Int) ∧ 1 ≤ K ∧ K ≤ 12 ∧ what.toInt = (e : Int) ∧ e ≤ 3 := fun {q r K} a1 a2 a3 a4 a5 a6 a7 a8 a9 => ⟨q, r, K, what.toInt.toNat, a1, a2, a3, a4, a5, a6, a7, by omega, by omega⟩
    have F : ∀ (v : Int32) (k : Nat), k ≠ 0 → va_up I 0 (va_up (I 0) 8 v) k = I k := fun v k hk => va_ne' hk
    have FIN : ∀ v : Int32, LW S (va_up (va_up I 0 (va_up (I 0) 8 v)) 660 (va_up ((va_up I 0 (va_up (I 0) 8 v)) 660) 4 v)) P := fun v => h.st (v := v) (fun k _ q1 q2 => by rw [va_ne' q2, va_ne' q1]) (by rw [va_ne' (by omega), va_at' rfl, va_at' rfl]) (by rw [va_at' rfl, va_ne' (show 660 ≠ 0 by omega)])
    refine k_X9_fits h.2.1 (v3.e4 v1 e4) (v1.e4 e4) (v2.e4 v1.2.2.2.2.1 v1.1.2.2 e4) hR.th hR.sz (fun hb => ⟨_, rfl, h.2.2.1.1, k_X10_fits h.2.2.1 (n := n) (T := T) (t := t) (c := c) (w := I 666) rfl v1 (old := I 668) (fun _ _ => rfl) hR.sz2 (fun _ => ⟨rfl, h⟩) (fun q r K a1 a2 a3 a4 a5 a6 a7 a8 a9 _ => absurd (ex a1 a2 a3 a4 a5 a6 a7 a8 a9) hb) (fun q r K a1 a2 a3 a4 a5 a6 a7 a8 a9 _ _ _ _ _ => absurd (ex a1 a2 a3 a4 a5 a6 a7 a8 a9) hb) (fun q r K a1 a2 a3 a4 a5 a6 a7 a8 a9 _ _ _ _ _ _ _ _ _ _ _ _ _ => absurd (ex a1 a2 a3 a4 a5 a6 a7 a8 a9) hb)⟩)
      (fun q r K a1 a2 a3 a4 a5 a6 a7 a8 a9 m1 => ⟨_, rfl, h.2.2.1.1, k_X10_fits h.2.2.1 (n := n) (T := T) (t := t) (c := c) (w := I 666) (F 1 666 (by omega)) v1 (old := I 668) (fun _ _ => by rw [show va_up I 0 (va_up (I 0) 8 1) (660 + 8) = I 668 from F 1 668 (by omega)]) (by rw [show va_up I 0 (va_up (I 0) 8 1) (660 + 2) = I 662 from F 1 662 (by omega)]; exact hR.sz2) (fun hb => absurd (ex a1 a2 a3 a4 a5 a6 a7 a8 a9) hb) (fun _ _ _ _ _ _ _ _ _ _ _ _ _ => ⟨rfl, FIN 1⟩) (fun q' r' K' b1 b2 b3 b4 b5 b6 b7 b8 b9 z' z1 _ _ _ => ?_) (fun q' r' K' b1 b2 b3 b4 b5 b6 b7 b8 b9 z' i0 s p J z1 _ _ _ _ _ _ _ => ?_)⟩)
      (fun q r K a1 a2 a3 a4 a5 a6 a7 a8 a9 z m1 m2 m3 m4 => ⟨_, rfl, h.2.2.1.1, k_X10_fits h.2.2.1 (n := n) (T := T) (t := t) (c := c) (w := I 666) (F 2 666 (by omega)) v1 (old := I 668) (fun _ _ => by rw [show va_up I 0 (va_up (I 0) 8 2) (660 + 8) = I 668 from F 2 668 (by omega)]) (by rw [show va_up I 0 (va_up (I 0) 8 2) (660 + 2) = I 662 from F 2 662 (by omega)]; exact hR.sz2) (fun hb => absurd (ex a1 a2 a3 a4 a5 a6 a7 a8 a9) hb) (fun q' r' K' b1 b2 b3 b4 b5 b6 b7 b8 b9 z1 => ?_) (fun _ _ _ _ _ _ _ _ _ _ _ _ _ _ _ _ _ => ⟨rfl, FIN 2⟩) (fun q' r' K' b1 b2 b3 b4 b5 b6 b7 b8 b9 z' i0 s p J z1 z2 z3 z4 z5 _ _ _ => ?_)⟩)
      (fun q r K a1 a2 a3 a4 a5 a6 a7 a8 a9 z i0 s p J m1 m2 m3 m4 m5 m6 m7 => ?_)
    · obtain rfl : r' = r := by omega
      rw [show va_up I 0 (va_up (I 0) 8 1) (660 + 1) = I 661 from F 1 661 (by omega)] at z1
      exact absurd ((hR.miss b4).mp m1) z1
    · obtain rfl : r' = r := by omega
      rw [show va_up I 0 (va_up (I 0) 8 1) (660 + 1) = I 661 from F 1 661 (by omega)] at z1
      exact absurd ((hR.miss b4).mp m1) z1
    · obtain rfl : r' = r := by omega
      rw [show va_up I 0 (va_up (I 0) 8 2) (660 + 1) = I 661 from F 2 661 (by omega)] at z1
      exact absurd z1 ((hR.is b4).mp m1)
    · obtain rfl : r' = r := by omega
      rw [show va_up I 0 (va_up (I 0) 8 2) (660 + 2) = I 662 from F 2 662 (by omega)] at z2
      have ez := (hR r' b4).2.1
      rw [ez] at z2
      exact absurd ⟨by omega, by omega, by omega⟩ m4
    · obtain ⟨f, f0⟩ := m7
      have G : ∀ k, k ≠ 0 → 584 ≤ k → J k = I k := fun k q1 q2 => f k q1 (by omega) (by omega)
      refine ⟨_, rfl, h.2.2.1.1, k_X10_fits h.2.2.1 (n := n) (T := T) (t := t) (c := c) (w := I 666) (G 666 (by omega) (by omega)) v1 (old := I 668) (fun _ _ => by rw [show J (660 + 8) = I 668 from G 668 (by omega) (by omega)]) (by rw [show J (660 + 2) = I 662 from G 662 (by omega) (by omega)]; exact hR.sz2) (fun hb => absurd (ex a1 a2 a3 a4 a5 a6 a7 a8 a9) hb) (fun q' r' K' b1 b2 b3 b4 b5 b6 b7 b8 b9 z1 => ?_) (fun q' r' K' b1 b2 b3 b4 b5 b6 b7 b8 b9 z' z1 z2 z3 z4 => ?_) (fun q' r' K' b1 b2 b3 b4 b5 b6 b7 b8 b9 z' i0' s' p' J' z1 z2 z3 z4 z5 z6 z7 z8 => ?_)⟩
      · obtain rfl : r' = r := by omega
        rw [show J (660 + 1) = I 661 from G 661 (by omega) (by omega)] at z1
        exact absurd z1 ((hR.is b4).mp m1)
      · obtain rfl : r' = r := by omega
        rw [show J (660 + 2) = I 662 from G 662 (by omega) (by omega), (hR r' b4).2.1] at z2
        exact absurd ⟨by omega, by omega, by omega⟩ z4
      · obtain rfl : q' = q := by omega
        obtain rfl : r' = r := by omega
        obtain rfl : K' = K := by omega
        obtain rfl : i0' = i0 := by omega
        have hN' : Nw (va_cpy (I 666) (I 668) 0 0 124) t s' p' := by
          obtain ⟨n1, n2, n3, n4, n5, n6⟩ := z6
          exact ⟨by rw [e4 _ (by omega)]; exact n1, n2, by rw [e4 _ (by omega)]; exact n3, n4, by rw [e4 _ (by omega)]; exact n5, n6⟩
        obtain ⟨rfl, rfl⟩ := m6.uniq hN'
        have he : fitI (va_cpy (I 666) (I 668) 0 0 124) n t s' q' K' what (fun k => J (660 + 3) (40 * r' + i0' + k)) = fitI (va_cpy (I 666) (I 668) 0 0 124) n t s' q' K' what (fun k => I (597 + 2 * r') (i0' + k)) := fitI_congr (fun j hj => by
          show J (660 + 3) (40 * r' + i0' + j) = I (597 + 2 * r') (i0' + j)
          rw [show J (660 + 3) = I 663 from G 663 (by omega) (by omega)]
          rcases (hR r' b4).1 with ⟨a, b⟩ | ⟨a, b, c9, dd⟩
          · exact absurd (a.symm.trans m1) (by decide)
          · rw [dd (i0' + j) (by omega)]; congr 1; omega)
        refine ⟨by rw [he], h.st (v := 0) (fun k hk q1 q2 => ?_) ?_ ?_⟩
        · unfold Kc at hk
          rw [va_ne' q2, z7 k (by omega)]
          exact f k q1 (by omega) (by omega)
        · rw [va_ne' (by omega), z7 0 (by omega), f0, va_at' rfl]
        · rw [va_at' rfl, G 660 (by omega) (by omega)]
  · exact k_X9_fits0 h.2.1 v2 ⟨_, rfl, h.2.2.1.1, k_X10_fits0 h.2.2.1 v1.1 ⟨rfl, h⟩⟩
/-- rows have changed on both sides -/
theorem LW.rows {J : pmI} {v : Int32} (h : LW S I P) (f : ∀ k, k ≠ 0 → (k < 596 ∨ 612 ≤ k) → k ≠ 660 → k ≠ 661 → k ≠ 662 → k ≠ 663 → k ≠ 664 → J k = I k) (e0 : J 0 8 = v) (e6 : J 660 = va_up (I 660) 4 v) (hr : LR J) : LW S J P := by
  obtain ⟨hs, hX, hM, h1, h2, h3, h4, h5, h6⟩ := h
  have F6 : ∀ j, j ≠ 4 → J 660 j = I 660 j := fun j hj => by rw [e6, va_ne' hj]
  exact ⟨hs, hX, hM, by rw [e0, e6, va_at' rfl], hr, h3.fr (by rw [f 2 (by omega) (by omega) (by omega) (by omega) (by omega) (by omega) (by omega)]) (by rw [f 2 (by omega) (by omega) (by omega) (by omega) (by omega) (by omega) (by omega)]) (f _ (by omega) (by omega) (by omega) (by omega) (by omega) (by omega) (by omega)) (F6 _ (by omega)) (F6 _ (by omega)) (f _ (by omega) (by omega) (by omega) (by omega) (by omega) (by omega) (by omega)), h4.fr hX (by rw [f 50 (by omega) (by omega) (by omega) (by omega) (by omega) (by omega) (by omega)]) (by rw [f 50 (by omega) (by omega) (by omega) (by omega) (by omega) (by omega) (by omega)]) (F6 _ (by omega)) (f _ (by omega) (by omega) (by omega) (by omega) (by omega) (by omega) (by omega)) (f _ (by omega) (by omega) (by omega) (by omega) (by omega) (by omega) (by omega)) (fun k q1 q2 => f k (by omega) (by omega) (by omega) (by omega) (by omega) (by omega) (by omega)) (fun k q1 q2 => f k (by omega) (by omega) (by omega) (by omega) (by omega) (by omega) (by omega)) (fun _ _ _ => rfl) (fun _ _ _ => rfl), h5.fr hX (f _ (by omega) (by omega) (by omega) (by omega) (by omega) (by omega) (by omega)) (f _ (by omega) (by omega) (by omega) (by omega) (by omega) (by omega) (by omega)) (fun k q1 q2 => f k (by omega) (by omega) (by omega) (by omega) (by omega) (by omega) (by omega)) (fun _ _ _ => rfl), h6.fr (by rw [f 594 (by omega) (by omega) (by omega) (by omega) (by omega) (by omega) (by omega)]) (f _ (by omega) (by omega) (by omega) (by omega) (by omega) (by omega) (by omega)) (F6 _ (by omega)) (f _ (by omega) (by omega) (by omega) (by omega) (by omega) (by omega) (by omega))⟩
theorem LW.found (h : LW S I P) (v : Int32) : LW S (va_up (va_up I 0 (va_up (I 0) 8 v)) 660 (va_up ((va_up I 0 (va_up (I 0) 8 v)) 660) 4 v)) P := h.st (v := v) (fun k _ q1 q2 => by rw [va_ne' q2, va_ne' q1]) (by rw [va_ne' (by omega), va_at' rfl, va_at' rfl]) (by rw [va_at' rfl, va_ne' (show 660 ≠ 0 by omega)])
theorem st_row (h : LW S I P) (r lane n : Int32) : ST E yX9_row yX10_row [.int r, .int lane, .int n] S I P := by
  have hR := h.2.2.2.2.1
  refine k_X9_row h.2.1 (fun hb => ⟨_, rfl, h.2.2.1.1, k_X10_row h.2.2.1 (fun _ => ⟨rfl, h⟩) (fun ok _ => absurd ok hb) (fun k l z a1 a2 a3 a4 a5 a6 => absurd ⟨⟨k, a1, a2⟩, ⟨l, a3, a4⟩, by omega⟩ hb)⟩) (fun ok hn => ⟨_, rfl, h.2.2.1.1, k_X10_row h.2.2.1 (fun hb => absurd ok hb) (fun _ _ => ⟨rfl, h.found 4⟩) (fun k l z a1 a2 a3 a4 a5 a6 => absurd hn (by omega))⟩) (fun k l z a1 a2 a3 a4 a5 a6 I1 f1 e1 e2 e3 e4 => ⟨_, rfl, h.2.2.1.1, k_X10_row h.2.2.1 (fun hb => absurd ⟨⟨k, a1, a2⟩, ⟨l, a3, a4⟩, by omega⟩ hb) (fun _ hn => absurd hn (by omega)) (fun k' l' z' b1 b2 b3 b4 b5 b6 I2 g1 g2 g3 g4 g5 g6 => ?_)⟩)
  obtain rfl : k' = k := by omega
  have F1 : ∀ q, q ≠ 0 → q ≠ 596 + 2 * k' → q ≠ 596 + 2 * k' + 1 → I1 q = I q := fun q q1 q2 q3 => (f1 q q2 q3).trans (va_ne' q1)
  refine ⟨rfl, h.rows (v := 0) (fun q q1 q2 q3 q4 q5 q6 q7 => (g1 q q3 q4 q5 q6).trans (F1 q q1 (by omega) (by omega))) ?_ ?_ (fun k hk => ?_)⟩
  · rw [g1 0 (by omega) (by omega) (by omega) (by omega), f1 0 (by omega) (by omega), va_at' rfl, va_at' rfl]
  · rw [show I2 660 = va_up (I1 660) 4 0 from g2, F1 660 (by omega) (by omega) (by omega)]
  · have o1 : I2 661 = va_up (I 661) k' lane := by rw [show I2 661 = va_up (I1 (660 + 1)) k' lane from g3, show I1 (660 + 1) = I 661 from F1 661 (by omega) (by omega) (by omega)]
    have o2 : I2 662 = va_up (I 662) k' n := by rw [show I2 662 = va_up (I1 (660 + 2)) k' n from g4, show I1 (660 + 2) = I 662 from F1 662 (by omega) (by omega) (by omega)]
    have R1 : ∀ q, 596 ≤ q → q < 612 → I2 q = I1 q := fun q q1 q2 => g1 q (by omega) (by omega) (by omega) (by omega)
    rw [o1, o2, R1 (596 + 2 * k) (by omega) (by omega), R1 (597 + 2 * k) (by omega) (by omega)]
    by_cases hkk : k = k'
    · subst hkk
      rw [va_at' rfl, va_at' rfl, e1, e2, e3]
      refine ⟨Or.inr ⟨rfl, rfl, fun z9 => ?_, fun i hi => ?_⟩, rfl, z, a5, a6⟩
      · rw [z9, show ((-1000000 : Int32)).toInt = -1000000 from by decide] at a3
        omega
      · rw [e4 i hi]; exact (g5 i hi).symm
    · rw [va_ne' hkk, va_ne' hkk, F1 (596 + 2 * k) (by omega) (by omega) (by omega), F1 (597 + 2 * k) (by omega) (by omega) (by omega)]
      obtain ⟨x1, x2, x3⟩ := hR k hk
      refine ⟨x1.imp id (fun ⟨y1, y2, y3, y4⟩ => ⟨y1, y2, y3, fun i hi => ?_⟩), x2, x3⟩
      rw [y4 i hi, show I2 663 (40 * k + i) = I1 (660 + 3) (40 * k + i) from g6 _ (by omega), show I1 (660 + 3) = I 663 from F1 663 (by omega) (by omega) (by omega)]
theorem st_drop (h : LW S I P) (r : Int32) : ST E yX9_drop yX10_drop [.int r] S I P := by
  have hR := h.2.2.2.2.1
  have F : ∀ (v : Int32) (k : Nat), k ≠ 0 → va_up I 0 (va_up (I 0) 8 v) k = I k := fun v k hk => va_ne' hk
  refine k_X9_drop h.2.1 (fun hb => ⟨_, rfl, h.2.2.1.1, k_X10_drop h.2.2.1 (fun _ => ⟨rfl, h⟩) (fun k q1 q2 _ => absurd ⟨k, q1, q2⟩ hb) (fun k q1 q2 _ => absurd ⟨k, q1, q2⟩ hb)⟩) (fun k q1 q2 q3 => ⟨_, rfl, h.2.2.1.1, k_X10_drop h.2.2.1 (fun hb => absurd ⟨k, q1, q2⟩ hb) (fun _ _ _ _ => ⟨rfl, h.found 1⟩) (fun k' p1 p2 p3 => ?_)⟩) (fun k q1 q2 q3 => ⟨_, rfl, h.2.2.1.1, k_X10_drop h.2.2.1 (fun hb => absurd ⟨k, q1, q2⟩ hb) (fun k' p1 p2 p3 => ?_) (fun k' p1 p2 p3 => ?_)⟩)
  · obtain rfl : k' = k := by omega
    rw [show va_up I 0 (va_up (I 0) 8 1) (660 + 1) = I 661 from F 1 661 (by omega)] at p3
    exact absurd ((hR.miss q2).mp q3) p3
  · obtain rfl : k' = k := by omega
    rw [va_ne' (by omega), F 0 (660 + 1) (by omega)] at p3
    exact absurd ((hR.miss q2).mpr p3) q3
  · obtain rfl : k' = k := by omega
    have A1 : ∀ q, q ≠ 0 → q ≠ 596 + 2 * k' → va_up (va_up I 0 (va_up (I 0) 8 0)) (596 + 2 * k') (va_up (I (596 + 2 * k')) 1 0) q = I q := fun q a b => by rw [va_ne' b, va_ne' a]
    have AR0 : va_up (va_up I 0 (va_up (I 0) 8 0)) (596 + 2 * k') (va_up (I (596 + 2 * k')) 1 0) (596 + 2 * k') = va_up (I (596 + 2 * k')) 1 0 := va_at' rfl
    have A0 : va_up (va_up I 0 (va_up (I 0) 8 0)) (596 + 2 * k') (va_up (I (596 + 2 * k')) 1 0) 0 8 = 0 := by rw [va_ne' (by omega), va_at' rfl, va_at' rfl]
    generalize va_up (va_up I 0 (va_up (I 0) 8 0)) (596 + 2 * k') (va_up (I (596 + 2 * k')) 1 0) = I1 at A1 AR0 A0 p3 ⊢
    refine ⟨by rw [show I1 (660 + 2) = I 662 from A1 662 (by omega) (by omega), (hR k' q2).2.1], h.rows (v := 0) (fun q b1 b2 b3 b4 b5 b6 b7 => ?_) ?_ ?_ (fun k hk => ?_)⟩
    · rw [va_ne' b3, va_ne' (show q ≠ 660 + 1 from b4)]; exact A1 q b1 (by omega)
    · rw [va_ne' (by omega), va_ne' (by omega)]; exact A0
    · rw [va_at' rfl, A1 660 (by omega) (by omega)]
    · rw [va_ne' (show 596 + 2 * k ≠ 660 by omega), va_ne' (show 597 + 2 * k ≠ 660 by omega), va_ne' (show 596 + 2 * k ≠ 660 + 1 by omega), va_ne' (show 597 + 2 * k ≠ 660 + 1 by omega), va_ne' (show 661 ≠ 660 by omega), va_ne' (show 662 ≠ 660 by omega), va_ne' (show 663 ≠ 660 by omega), va_at' (show 661 = 660 + 1 from rfl), va_ne' (show 662 ≠ 660 + 1 by omega), va_ne' (show 663 ≠ 660 + 1 by omega), show I1 (660 + 1) = I 661 from A1 661 (by omega) (by omega), A1 662 (by omega) (by omega), A1 663 (by omega) (by omega), A1 (597 + 2 * k) (by omega) (by omega)]
      obtain ⟨x1, x2, x3⟩ := hR k hk
      by_cases hkk : k = k'
      · subst hkk
        rw [AR0, va_at' rfl, va_at' rfl, va_ne' (by omega)]
        exact ⟨Or.inl ⟨rfl, rfl⟩, x2, x3⟩
      · rw [va_ne' hkk, A1 (596 + 2 * k) (by omega) (by omega)]
        exact ⟨x1, x2, x3⟩
end STEPS2
