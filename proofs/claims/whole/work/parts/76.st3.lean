/-! set, copy, feed, web: both sides -/
section STEPS3
variable {E : pmE} {S : pmS} {I : pmI} {P : pmP}
theorem LR.ln (h : LR I) {k : Nat} (hk : k < 8) (h1 : I (596 + 2 * k) 1 = 1) : I 661 k = I (596 + 2 * k) 2 ∧ ∀ i, i < 40 → I (597 + 2 * k) i = I 663 (40 * k + i) := by
  rcases (h k hk).1 with ⟨a, b⟩ | ⟨a, b, c, e⟩
  · exact absurd (a.symm.trans h1) (by decide)
  · exact ⟨b, e⟩
/-- the items of one row have changed, alike -/
theorem LR.items {J : pmI} {k : Nat} (h : LR I) (hk : k < 8) (f : ∀ q, 596 ≤ q → q ≤ 611 → q ≠ 597 + 2 * k → J q = I q) (e1 : J 661 = I 661) (e2 : J 662 = I 662) (e3 : ∀ i, i < 40 * k ∨ 40 * k + 40 ≤ i → J 663 i = I 663 i) (e4 : I (596 + 2 * k) 1 = 1 → ∀ i, i < 40 → J (597 + 2 * k) i = J 663 (40 * k + i)) : LR J := by
  intro l hl
  rw [e1, e2, f (596 + 2 * l) (by omega) (by omega) (by omega)]
  obtain ⟨x1, x2, x3⟩ := h l hl
  refine ⟨x1.imp id (fun ⟨y1, y2, y3, y4⟩ => ⟨y1, y2, y3, fun i hi => ?_⟩), x2, x3⟩
  by_cases hlk : l = k
  · subst hlk; exact e4 y1 i hi
  · rw [f (597 + 2 * l) (by omega) (by omega) (by omega), y4 i hi, e3 _ (by omega)]
theorem st_set (h : LW S I P) (r i v : Int32) : ST E yX9_set yX10_set [.int r, .int i, .int v] S I P := by
  have hR := h.2.2.2.2.1
  have F : ∀ (v : Int32) (k : Nat), k ≠ 0 → va_up I 0 (va_up (I 0) 8 v) k = I k := fun v k hk => va_ne' hk
  have F1 : ∀ v : Int32, va_up I 0 (va_up (I 0) 8 v) (660 + 1) = I 661 := fun v => F v 661 (by omega)
  have F2 : ∀ v : Int32, va_up I 0 (va_up (I 0) 8 v) (660 + 2) = I 662 := fun v => F v 662 (by omega)
  refine k_X9_set h.2.1 hR.th hR.sz (fun hb => ⟨_, rfl, h.2.2.1.1, k_X10_set h.2.2.1 hR.sz2 (fun _ => ⟨rfl, h⟩) (fun k q1 q2 _ => absurd ⟨k, q1, q2⟩ hb) (fun k _ q1 q2 _ _ _ _ => absurd ⟨k, q1, q2⟩ hb) (fun k _ _ q1 q2 _ _ _ _ _ => absurd ⟨k, q1, q2⟩ hb)⟩)
    (fun k q1 q2 q3 => ⟨_, rfl, h.2.2.1.1, k_X10_set h.2.2.1 (by rw [F2]; exact hR.sz2) (fun hb => absurd ⟨k, q1, q2⟩ hb) (fun _ _ _ _ => ⟨rfl, h.found 1⟩) (fun k' z p1 p2 p3 _ _ _ => ?_) (fun k' z j p1 p2 p3 _ _ _ _ => ?_)⟩)
    (fun k z q1 q2 q3 q4 q5 q6 => ⟨_, rfl, h.2.2.1.1, k_X10_set h.2.2.1 (by rw [F2]; exact hR.sz2) (fun hb => absurd ⟨k, q1, q2⟩ hb) (fun k' p1 p2 p3 => ?_) (fun _ _ _ _ _ _ _ _ => ⟨rfl, h.found 2⟩) (fun k' z' j p1 p2 p3 p4 p5 p6 p7 => ?_)⟩)
    (fun k z j q1 q2 q3 q4 q5 q6 q7 => ?_)
  · obtain rfl : k' = k := by omega
    rw [F1] at p3
    exact absurd ((hR.miss q2).mp q3) p3
  · obtain rfl : k' = k := by omega
    rw [F1] at p3
    exact absurd ((hR.miss q2).mp q3) p3
  · obtain rfl : k' = k := by omega
    rw [F1] at p3
    exact absurd p3 ((hR.is q2).mp q3)
  · obtain rfl : k' = k := by omega
    rw [F2, (hR k' q2).2.1] at p4
    have h1 : ((1 : Int32)).toInt = 1 := by decide
    exact absurd ⟨by omega, by omega, by omega⟩ q6
  · obtain ⟨ln, it⟩ := hR.ln q2 q3
    have A1 : ∀ q, q ≠ 0 → q ≠ 597 + 2 * k → va_up (va_up I 0 (va_up (I 0) 8 0)) (597 + 2 * k) (va_up (I (597 + 2 * k)) j (cutF (I (596 + 2 * k) 2) v)) q = I q := fun q a b => by rw [va_ne' b, va_ne' a]
    have AR0 : va_up (va_up I 0 (va_up (I 0) 8 0)) (597 + 2 * k) (va_up (I (597 + 2 * k)) j (cutF (I (596 + 2 * k) 2) v)) (597 + 2 * k) = va_up (I (597 + 2 * k)) j (cutF (I (596 + 2 * k) 2) v) := va_at' rfl
    have A0 : va_up (va_up I 0 (va_up (I 0) 8 0)) (597 + 2 * k) (va_up (I (597 + 2 * k)) j (cutF (I (596 + 2 * k) 2) v)) 0 8 = 0 := by rw [va_ne' (by omega), va_at' rfl, va_at' rfl]
    generalize va_up (va_up I 0 (va_up (I 0) 8 0)) (597 + 2 * k) (va_up (I (597 + 2 * k)) j (cutF (I (596 + 2 * k) 2) v)) = I1 at A1 AR0 A0 ⊢
    have G1 : I1 (660 + 1) = I 661 := A1 661 (by omega) (by omega)
    have G2 : I1 (660 + 2) = I 662 := A1 662 (by omega) (by omega)
    have G3 : I1 (660 + 3) = I 663 := A1 663 (by omega) (by omega)
    refine ⟨_, rfl, h.2.2.1.1, k_X10_set h.2.2.1 (by rw [G2]; exact hR.sz2) (fun hb => absurd ⟨k, q1, q2⟩ hb) (fun k' p1 p2 p3 => ?_) (fun k' z' p1 p2 p3 p4 p5 p6 => ?_) (fun k' z' j' p1 p2 p3 p4 p5 p6 p7 => ?_)⟩
    · obtain rfl : k' = k := by omega
      rw [G1] at p3
      exact absurd p3 ((hR.is q2).mp q3)
    · obtain rfl : k' = k := by omega
      rw [G2, (hR k' q2).2.1] at p4
      have h1 : ((1 : Int32)).toInt = 1 := by decide
      exact absurd ⟨by omega, by omega, by omega⟩ p6
    · obtain rfl : k' = k := by omega
      obtain rfl : j' = j := by omega
      rw [G1, G3, ln]
      refine ⟨rfl, h.rows (v := 0) (fun q b1 b2 b3 b4 b5 b6 b7 => ?_) ?_ ?_ (hR.items q2 (fun q b1 b2 b3 => ?_) ?_ ?_ (fun i hi => ?_) (fun _ i hi => ?_))⟩
      · rw [va_ne' b3, va_ne' (show q ≠ 660 + 3 from b6)]; exact A1 q b1 (by omega)
      · rw [va_ne' (by omega), va_ne' (by omega)]; exact A0
      · rw [va_at' rfl, A1 660 (by omega) (by omega)]
      · rw [va_ne' (by omega), va_ne' (show q ≠ 660 + 3 by omega)]; exact A1 q (by omega) b3
      · rw [va_ne' (by omega), va_ne' (by omega)]; exact G1
      · rw [va_ne' (by omega), va_ne' (by omega)]; exact G2
      · rw [va_ne' (by omega), va_at' (show 663 = 660 + 3 from rfl), va_ne' (by omega)]
      · rw [va_ne' (by omega), va_ne' (show 597 + 2 * k' ≠ 660 + 3 by omega), AR0, va_ne' (show 663 ≠ 660 by omega), va_at' (show 663 = 660 + 3 from rfl)]
        by_cases hij : i = j'
        · subst hij; rw [va_at' rfl, va_at' rfl]
        · rw [va_ne' hij, va_ne' (by omega)]; exact it i hi
theorem st_copy (h : LW S I P) (a i b j n : Int32) : ST E yX9_copy yX10_copy [.int a, .int i, .int b, .int j, .int n] S I P := by
  have hR := h.2.2.2.2.1
  have F : ∀ (v : Int32) (k : Nat), k ≠ 0 → va_up I 0 (va_up (I 0) 8 v) k = I k := fun v k hk => va_ne' hk
  have F1 : ∀ v : Int32, va_up I 0 (va_up (I 0) 8 v) (660 + 1) = I 661 := fun v => F v 661 (by omega)
  have F2 : ∀ v : Int32, va_up I 0 (va_up (I 0) 8 v) (660 + 2) = I 662 := fun v => F v 662 (by omega)
  refine k_X9_copy h.2.1 hR.th hR.sz (fun hb => ⟨_, rfl, h.2.2.1.1, k_X10_copy h.2.2.1 hR.sz2 (fun _ => ⟨rfl, h⟩) (fun k l q1 q2 q3 q4 _ => absurd ⟨k, l, q1, q2, q3, q4⟩ hb) (fun k l q1 q2 q3 q4 _ _ _ => absurd ⟨k, l, q1, q2, q3, q4⟩ hb) (fun k l q1 q2 q3 q4 _ _ _ _ _ _ _ _ _ _ => absurd ⟨k, l, q1, q2, q3, q4⟩ hb) (fun k l q1 q2 q3 q4 _ _ _ _ _ _ _ _ _ _ _ _ _ _ _ _ _ => absurd ⟨k, l, q1, q2, q3, q4⟩ hb)⟩)
    (fun k l q1 q2 q3 q4 q5 => ⟨_, rfl, h.2.2.1.1, k_X10_copy h.2.2.1 (by rw [F2]; exact hR.sz2) (fun hb => absurd ⟨k, l, q1, q2, q3, q4⟩ hb) (fun _ _ _ _ _ _ _ => ⟨rfl, h.found 1⟩) (fun k' l' p1 p2 p3 p4 p5 p6 _ => ?_) (fun k' l' p1 p2 p3 p4 y z p5 p6 _ _ _ _ _ _ => ?_) (fun k' l' p1 p2 p3 p4 y z u v q p5 p6 _ _ _ _ _ _ _ _ _ _ => ?_)⟩)
    (fun k l q1 q2 q3 q4 q5 q6 q7 => ⟨_, rfl, h.2.2.1.1, k_X10_copy h.2.2.1 (by rw [F2]; exact hR.sz2) (fun hb => absurd ⟨k, l, q1, q2, q3, q4⟩ hb) (fun k' l' p1 p2 p3 p4 p5 => ?_) (fun _ _ _ _ _ _ _ _ _ => ⟨rfl, h.found 5⟩) (fun k' l' p1 p2 p3 p4 y z p5 p6 p7 _ _ _ _ _ => ?_) (fun k' l' p1 p2 p3 p4 y z u v q p5 p6 p7 _ _ _ _ _ _ _ _ _ => ?_)⟩)
    (fun k l q1 q2 q3 q4 y z q5 q6 q7 q8 q9 q10 q11 q12 => ⟨_, rfl, h.2.2.1.1, k_X10_copy h.2.2.1 (by rw [F2]; exact hR.sz2) (fun hb => absurd ⟨k, l, q1, q2, q3, q4⟩ hb) (fun k' l' p1 p2 p3 p4 p5 => ?_) (fun k' l' p1 p2 p3 p4 p5 p6 p7 => ?_) (fun _ _ _ _ _ _ _ _ _ _ _ _ _ _ _ _ => ⟨rfl, h.found 2⟩) (fun k' l' p1 p2 p3 p4 y' z' u v q p5 p6 p7 p8 p9 p10 p11 p12 p13 p14 p15 p16 => ?_)⟩)
    (fun k l q1 q2 q3 q4 y z u v q q5 q6 q7 q8 q9 q10 q11 q12 q13 q14 q15 q16 => ?_)
  · obtain rfl : k' = k := by omega
    obtain rfl : l' = l := by omega
    rw [F1] at p5 p6
    rcases q5 with q5 | q5
    · exact absurd ((hR.miss q2).mp q5) p5
    · exact absurd ((hR.miss q4).mp q5) p6
  · obtain rfl : k' = k := by omega
    obtain rfl : l' = l := by omega
    rw [F1] at p5 p6
    rcases q5 with q5 | q5
    · exact absurd ((hR.miss q2).mp q5) p5
    · exact absurd ((hR.miss q4).mp q5) p6
  · obtain rfl : k' = k := by omega
    obtain rfl : l' = l := by omega
    rw [F1] at p5 p6
    rcases q5 with q5 | q5
    · exact absurd ((hR.miss q2).mp q5) p5
    · exact absurd ((hR.miss q4).mp q5) p6
  · obtain rfl : k' = k := by omega
    obtain rfl : l' = l := by omega
    rw [F1] at p5
    rcases p5 with p5 | p5
    · exact absurd p5 ((hR.is q2).mp q5)
    · exact absurd p5 ((hR.is q4).mp q6)
  · obtain rfl : k' = k := by omega
    obtain rfl : l' = l := by omega
    rw [F1, (hR.ln q2 q5).1, (hR.ln q4 q6).1] at p7
    exact absurd p7 q7
  · obtain rfl : k' = k := by omega
    obtain rfl : l' = l := by omega
    rw [F1, (hR.ln q2 q5).1, (hR.ln q4 q6).1] at p7
    exact absurd p7 q7
  · obtain rfl : k' = k := by omega
    obtain rfl : l' = l := by omega
    rw [F1] at p5
    rcases p5 with p5 | p5
    · exact absurd p5 ((hR.is q2).mp q5)
    · exact absurd p5 ((hR.is q4).mp q6)
  · obtain rfl : k' = k := by omega
    obtain rfl : l' = l := by omega
    rw [F1, (hR.ln q2 q5).1, (hR.ln q4 q6).1] at p7
    exact absurd q7 p7
  · obtain rfl : k' = k := by omega
    obtain rfl : l' = l := by omega
    rw [F2, (hR k' q2).2.1] at p8
    rw [F2, (hR l' q4).2.1] at p10
    exact absurd ⟨⟨by omega, by omega, by omega⟩, ⟨by omega, by omega, by omega⟩⟩ q12
  · obtain ⟨lk, ik⟩ := hR.ln q2 q5
    obtain ⟨ll, il⟩ := hR.ln q4 q6
    have A1 : ∀ x, x ≠ 0 → x ≠ 597 + 2 * l → va_up (va_up I 0 (va_up (I 0) 8 0)) (597 + 2 * l) (va_cpy (I (597 + 2 * k)) (I (597 + 2 * l)) u v q) x = I x := fun x a b => by rw [va_ne' b, va_ne' a]
    have AR0 : va_up (va_up I 0 (va_up (I 0) 8 0)) (597 + 2 * l) (va_cpy (I (597 + 2 * k)) (I (597 + 2 * l)) u v q) (597 + 2 * l) = va_cpy (I (597 + 2 * k)) (I (597 + 2 * l)) u v q := va_at' rfl
    have A0 : va_up (va_up I 0 (va_up (I 0) 8 0)) (597 + 2 * l) (va_cpy (I (597 + 2 * k)) (I (597 + 2 * l)) u v q) 0 8 = 0 := by rw [va_ne' (by omega), va_at' rfl, va_at' rfl]
    generalize va_up (va_up I 0 (va_up (I 0) 8 0)) (597 + 2 * l) (va_cpy (I (597 + 2 * k)) (I (597 + 2 * l)) u v q) = I1 at A1 AR0 A0 ⊢
    have G1 : I1 (660 + 1) = I 661 := A1 661 (by omega) (by omega)
    have G2 : I1 (660 + 2) = I 662 := A1 662 (by omega) (by omega)
    have G3 : I1 (660 + 3) = I 663 := A1 663 (by omega) (by omega)
    refine ⟨_, rfl, h.2.2.1.1, k_X10_copy h.2.2.1 (by rw [G2]; exact hR.sz2) (fun hb => absurd ⟨k, l, q1, q2, q3, q4⟩ hb) (fun k' l' p1 p2 p3 p4 p5 => ?_) (fun k' l' p1 p2 p3 p4 p5 p6 p7 => ?_) (fun k' l' p1 p2 p3 p4 y' z' p5 p6 p7 p8 p9 p10 p11 p12 => ?_) (fun k' l' p1 p2 p3 p4 y' z' u' v' q' p5 p6 p7 p8 p9 p10 p11 p12 p13 p14 p15 p16 => ?_)⟩
    · obtain rfl : k' = k := by omega
      obtain rfl : l' = l := by omega
      rw [G1] at p5
      rcases p5 with p5 | p5
      · exact absurd p5 ((hR.is q2).mp q5)
      · exact absurd p5 ((hR.is q4).mp q6)
    · obtain rfl : k' = k := by omega
      obtain rfl : l' = l := by omega
      rw [G1, lk, ll] at p7
      exact absurd q7 p7
    · obtain rfl : k' = k := by omega
      obtain rfl : l' = l := by omega
      rw [G2, (hR k' q2).2.1] at p8
      rw [G2, (hR l' q4).2.1] at p10
      exact absurd ⟨⟨by omega, by omega, by omega⟩, ⟨by omega, by omega, by omega⟩⟩ p12
    · obtain rfl : k' = k := by omega
      obtain rfl : l' = l := by omega
      obtain rfl : u' = u := by omega
      obtain rfl : v' = v := by omega
      obtain rfl : q' = q := by omega
      rw [G3]
      refine ⟨rfl, h.rows (v := 0) (fun x b1 b2 b3 b4 b5 b6 b7 => ?_) ?_ ?_ (hR.items q4 (fun x b1 b2 b3 => ?_) ?_ ?_ (fun i hi => ?_) (fun _ i hi => ?_))⟩
      · rw [va_ne' b3, va_ne' (show x ≠ 660 + 3 from b6), va_ne' (show x ≠ 660 + 4 from b7)]; exact A1 x b1 (by omega)
      · rw [va_ne' (by omega), va_ne' (by omega), va_ne' (by omega)]; exact A0
      · rw [va_at' rfl, A1 660 (by omega) (by omega)]
      · rw [va_ne' (by omega), va_ne' (show x ≠ 660 + 3 by omega), va_ne' (show x ≠ 660 + 4 by omega)]; exact A1 x (by omega) b3
      · rw [va_ne' (by omega), va_ne' (by omega), va_ne' (by omega)]; exact G1
      · rw [va_ne' (by omega), va_ne' (by omega), va_ne' (by omega)]; exact G2
      · rw [va_ne' (by omega), va_at' (show 663 = 660 + 3 from rfl), cpy_off (by omega)]
      · rw [va_ne' (by omega), va_ne' (show 597 + 2 * l' ≠ 660 + 3 by omega), va_ne' (show 597 + 2 * l' ≠ 660 + 4 by omega), AR0, va_ne' (show 663 ≠ 660 by omega), va_at' (show 663 = 660 + 3 from rfl)]
        by_cases hin : v' ≤ i ∧ i < v' + q'
        · rw [cpy_in hin, cpy_in (by omega), cpy_in (by omega), ik _ (by omega)]
          congr 1; omega
        · rw [cpy_off (by omega), cpy_off (by omega)]; exact il i hi
theorem st_feed (h : LW S I P) (letter : Int32) : ST E yX9_feed yX10_feed [.int letter] S I P := by
  obtain ⟨t1, t2, L, t3, t4, t5⟩ := h.2.2.2.2.2.1
  have t3' : (I 660 6).toInt = (L : Int) := by rw [← t1]; exact t3
  refine k_X9_feed h.2.1 t3 t4 (fun hb => ⟨_, rfl, h.2.2.1.1, k_X10_feed h.2.2.1 t3' t4 (fun _ => ⟨rfl, h⟩) (fun z _ => absurd z hb) (fun z _ => absurd z hb)⟩) (fun a b => ⟨_, rfl, h.2.2.1.1, k_X10_feed h.2.2.1 t3' t4 (fun z => absurd a z) (fun _ _ => ⟨rfl, h⟩) (fun _ z => absurd z b)⟩) (fun a b => ?_)
  have A1 : ∀ x, x ≠ 2 → x ≠ 3 → va_up (va_up I 3 (va_up (I 3) L letter)) 2 (va_up (I 2) 3 (iN (L + 1))) x = I x := fun x a b => by rw [va_ne' a, va_ne' b]
  have A3 : va_up (va_up I 3 (va_up (I 3) L letter)) 2 (va_up (I 2) 3 (iN (L + 1))) 3 = va_up (I 3) L letter := by rw [va_ne' (by omega), va_at' rfl]
  have A2 : va_up (va_up I 3 (va_up (I 3) L letter)) 2 (va_up (I 2) 3 (iN (L + 1))) 2 = va_up (I 2) 3 (iN (L + 1)) := va_at' rfl
  generalize va_up (va_up I 3 (va_up (I 3) L letter)) 2 (va_up (I 2) 3 (iN (L + 1))) = I1 at A1 A2 A3 ⊢
  refine ⟨_, rfl, h.2.2.1.1, k_X10_feed h.2.2.1 (y := L) (by rw [A1 660 (by omega) (by omega)]; exact t3') t4 (fun z => absurd a z) (fun _ z => absurd b z) (fun _ _ => ⟨rfl, ?_⟩)⟩
  rw [show I1 (660 + 5) = I 665 from A1 665 (by omega) (by omega), A1 660 (by omega) (by omega)]
  have F : ∀ k, k ≠ 2 → k ≠ 3 → k ≠ 660 → k ≠ 665 → va_up (va_up I1 (660 + 5) (va_up (I 665) L letter)) 660 (va_up (I 660) 6 (iN (L + 1))) k = I k := fun k q1 q2 q3 q4 => by rw [va_ne' q3, va_ne' (show k ≠ 660 + 5 from q4)]; exact A1 k q1 q2
  have F6 : va_up (va_up I1 (660 + 5) (va_up (I 665) L letter)) 660 (va_up (I 660) 6 (iN (L + 1))) 660 = va_up (I 660) 6 (iN (L + 1)) := va_at' rfl
  have F5 : va_up (va_up I1 (660 + 5) (va_up (I 665) L letter)) 660 (va_up (I 660) 6 (iN (L + 1))) 665 = va_up (I 665) L letter := by rw [va_ne' (by omega), va_at' (show 665 = 660 + 5 from rfl)]
  have F3 : va_up (va_up I1 (660 + 5) (va_up (I 665) L letter)) 660 (va_up (I 660) 6 (iN (L + 1))) 3 = va_up (I 3) L letter := by rw [va_ne' (by omega), va_ne' (by omega)]; exact A3
  have F2 : va_up (va_up I1 (660 + 5) (va_up (I 665) L letter)) 660 (va_up (I 660) 6 (iN (L + 1))) 2 = va_up (I 2) 3 (iN (L + 1)) := by rw [va_ne' (by omega), va_ne' (by omega)]; exact A2
  generalize va_up (va_up I1 (660 + 5) (va_up (I 665) L letter)) 660 (va_up (I 660) 6 (iN (L + 1))) = J at F F2 F3 F5 F6 ⊢
  obtain ⟨hs, hX, hM, h1, h2, h3, h4, h5, h6⟩ := h
  have G6 : ∀ j, j ≠ 6 → J 660 j = I 660 j := fun j hj => by rw [F6, va_ne' hj]
  refine ⟨hs, hX, hM, by rw [F 0 (by omega) (by omega) (by omega) (by omega), G6 4 (by omega)]; exact h1, h2.fr (fun k q1 q2 => F k (by omega) (by omega) (by omega) (by omega)) (F _ (by omega) (by omega) (by omega) (by omega)) (F _ (by omega) (by omega) (by omega) (by omega)) (F _ (by omega) (by omega) (by omega) (by omega)), ⟨by rw [F2, F6, va_at' rfl, va_at' rfl], by rw [F2, va_ne' (by omega), G6 7 (by omega)]; exact t2, L + 1, by rw [F2, va_at' rfl]; exact iN_ti (by omega), by omega, fun i hi => ?_⟩, h4.fr hX (by rw [F 50 (by omega) (by omega) (by omega) (by omega)]) (by rw [F 50 (by omega) (by omega) (by omega) (by omega)]) (G6 _ (by omega)) (F _ (by omega) (by omega) (by omega) (by omega)) (F _ (by omega) (by omega) (by omega) (by omega)) (fun k q1 q2 => F k (by omega) (by omega) (by omega) (by omega)) (fun k q1 q2 => F k (by omega) (by omega) (by omega) (by omega)) (fun _ _ _ => rfl) (fun _ _ _ => rfl), h5.fr hX (F _ (by omega) (by omega) (by omega) (by omega)) (F _ (by omega) (by omega) (by omega) (by omega)) (fun k q1 q2 => F k (by omega) (by omega) (by omega) (by omega)) (fun _ _ _ => rfl), h6.fr (by rw [F 594 (by omega) (by omega) (by omega) (by omega)]) (F _ (by omega) (by omega) (by omega) (by omega)) (G6 _ (by omega)) (F _ (by omega) (by omega) (by omega) (by omega))⟩
  rw [F3, F5]
  by_cases hiL : i = L
  · subst hiL
    rw [va_at' rfl, va_at' rfl]
    exact ⟨rfl, letter.toInt.toNat, by omega, by omega⟩
  · rw [va_ne' hiL, va_ne' hiL]
    exact t5 i (by omega)
theorem st_web (h : LW S I P) : ST E yX9_web yX10_web [] S I P := by
  have h0 := h
  obtain ⟨hs, hX, hM, h1, h2, ⟨t1, t2, L, t3, t4, t5⟩, h4, h5, h6⟩ := h0
  have hTP : TP (fun i => if i < L then I 3 i else -1) L := ⟨t4, fun i hi => by
    obtain ⟨_, b, b1, b2⟩ := t5 i hi
    exact ⟨b, by dsimp only; rw [if_pos hi]; exact b1, b2⟩, fun i hi => by dsimp only; rw [if_neg (by omega)]⟩
  have hC : TC I (fun i => if i < L then I 3 i else -1) := ⟨L, t3, hTP, fun i hi => by dsimp only; rw [if_pos hi]⟩
  have hCM : ∀ J : pmI, J 660 = I 660 → J 665 = I 665 → TM J 660 (fun i => if i < L then I 3 i else -1) := fun J e1 e2 => ⟨L, by rw [e1, ← t1]; exact t3, hTP, fun i hi => by
    dsimp only
    rw [if_pos hi, show J (660 + 5) = I 665 from e2]; exact (t5 i hi).1.symm⟩
  generalize (fun i => if i < L then I 3 i else -1) = tp at hC hCM
  refine k_X9_web hX hC (fun e he J f1 e3 e4 => ⟨_, rfl, h.2.2.1.1, k_X10_web hM (hCM J (f1 660 (by omega)) (f1 665 (by omega))) (fun e' he' K g1 g2 g3 => ?_) (fun w n T hw => ?_)⟩) (fun w n T hw hV J f1 e1 e2 e3 e4 W1 D1 => ⟨_, rfl, h.2.2.1.1, k_X10_web hM (hCM J (f1 660 (by omega)) (f1 665 (by omega))) (fun e' he' => ?_) (fun w' n' T' hw' hV' K g1 g2 g3 g4 g5 g6 => ?_)⟩)
  · cases he.symm.trans he'
    have F : ∀ k, k < 2 ∨ 27 ≤ k → k ≠ 660 → k ≠ 667 → K k = I k := fun k q1 q2 q3 => by
      have := g1.1 k q2 q3
      rw [va_ne' q2] at this
      exact this.trans (f1 k q1)
    have G6 : ∀ j, j ≠ 6 → j < 7 ∨ 12 < j → K 660 j = I 660 j := fun j q1 q2 => by
      have := g1.2 j q2
      rw [va_at' rfl, va_ne' q1] at this
      exact this.trans (by rw [f1 660 (by omega)])
    have K2 : K 2 = J 2 := by
      have := g1.1 2 (by omega) (by omega)
      rw [va_ne' (by omega)] at this
      exact this
    exact ⟨rfl, hs, hX, hM, by rw [F 0 (by omega) (by omega) (by omega), G6 4 (by omega) (by omega)]; exact h1, h2.fr (fun k q1 q2 => F k (by omega) (by omega) (by omega)) (F _ (by omega) (by omega) (by omega)) (F _ (by omega) (by omega) (by omega)) (F _ (by omega) (by omega) (by omega)), ⟨by rw [K2, e3, g2], by rw [K2, e4, g3], 0, by rw [K2, e3]; rfl, by omega, fun i hi => absurd hi (by omega)⟩, h4.fr hX (by rw [F 50 (by omega) (by omega) (by omega)]) (by rw [F 50 (by omega) (by omega) (by omega)]) (G6 _ (by omega) (by omega)) (F _ (by omega) (by omega) (by omega)) (F _ (by omega) (by omega) (by omega)) (fun k q1 q2 => F k (by omega) (by omega) (by omega)) (fun k q1 q2 => F k (by omega) (by omega) (by omega)) (fun _ _ _ => rfl) (fun _ _ _ => rfl), h5.fr hX (F _ (by omega) (by omega) (by omega)) (F _ (by omega) (by omega) (by omega)) (fun k q1 q2 => F k (by omega) (by omega) (by omega)) (fun _ _ _ => rfl), h6.fr (by rw [F 594 (by omega) (by omega) (by omega)]) (F _ (by omega) (by omega) (by omega)) (G6 _ (by omega) (by omega)) (F _ (by omega) (by omega) (by omega))⟩
  · exact absurd (he.symm.trans hw) (by simp)
  · exact absurd (hw.symm.trans he') (by simp)
  · cases hw.symm.trans hw'
    obtain rfl : T' = T := by have a := hV.2.1.1; have b := hV'.2.1.1; omega
    have F : ∀ k, k < 2 ∨ 50 < k → k ≠ 660 → k ≠ 666 → k ≠ 667 → K k = I k := fun k q1 q2 q3 q4 => (g1 k q2 q3 q4).trans (f1 k q1)
    have F9 : ∀ k, k ≠ 660 → k ≠ 666 → k ≠ 667 → K k = J k := fun k q2 q3 q4 => g1 k q2 q3 q4
    have G6 : ∀ j, j < 6 ∨ (12 < j ∧ j ≠ 17) → K 660 j = I 660 j := fun j q => (g2 j q).trans (by rw [f1 660 (by omega)])
    obtain ⟨a0, nx, a, a1, a2, a3, a4, a5⟩ := h4
    refine ⟨rfl, hs, hX, hM, by rw [F 0 (by omega) (by omega) (by omega) (by omega), G6 4 (by omega)]; exact h1, h2.fr (fun k q1 q2 => F k (by omega) (by omega) (by omega) (by omega)) (F _ (by omega) (by omega) (by omega) (by omega)) (F _ (by omega) (by omega) (by omega) (by omega)) (F _ (by omega) (by omega) (by omega) (by omega)), ⟨by rw [F9 2 (by omega) (by omega) (by omega), e3, g3], by rw [F9 2 (by omega) (by omega) (by omega), e4, g4, f1 660 (by omega)]; exact t2, 0, by rw [F9 2 (by omega) (by omega) (by omega), e3]; rfl, by omega, fun i hi => absurd hi (by omega)⟩, ⟨by rw [F9 50 (by omega) (by omega) (by omega), e2, g5], nx, 0, by rw [F9 50 (by omega) (by omega) (by omega), e1]; exact a1, a2, by rw [F9 50 (by omega) (by omega) (by omega), e2]; rfl, by omega, Or.inl ⟨n, T', 0, 0, hV.e4 g6, ((W1.congr (fun k q1 q2 => F9 k (by omega) (by omega) (by omega))).e4 hV.2.2.2.2.1 hV.1.2.2 g6), ((D1.congr hX.dk hV.2.1.2.2 (by omega) (fun _ _ _ => rfl) (fun k q1 q2 => F9 k (by omega) (by omega) (by omega))).e4 hV g6), fun j hj => absurd hj (by omega)⟩⟩, h5.fr hX (F _ (by omega) (by omega) (by omega) (by omega)) (F _ (by omega) (by omega) (by omega) (by omega)) (fun k q1 q2 => F k (by omega) (by omega) (by omega) (by omega)) (fun _ _ _ => rfl), h6.fr (by rw [F 594 (by omega) (by omega) (by omega) (by omega)]) (F _ (by omega) (by omega) (by omega) (by omega)) (G6 _ (by omega)) (F _ (by omega) (by omega) (by omega) (by omega))⟩
end STEPS3
