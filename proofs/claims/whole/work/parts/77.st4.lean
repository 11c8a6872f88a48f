/-! acts, undo, images: both sides -/
section STEPS4
variable {E : pmE} {S : pmS} {I : pmI} {P : pmP}
/-- what stands: a web with its ring, or none -/
theorem LW.hist (h : LW S I P) : ∃ nx a : Nat, (I 50 1).toInt = (nx : Int) ∧ nx < 25 ∧ (I 50 2).toInt = (a : Int) ∧ a ≤ 24 ∧ (I 660 17).toInt = (a : Int) ∧ ((∃ n T t c, Vd (I 666) n T t c ∧ WR I 27 (I 666) n ∧ DR I P 30 (I 666) T c ∧ LH I P n nx a) ∨ (a = 0 ∧ V0 (I 666) ∧ I 27 2 = 0 ∧ DR I P 30 (I 666) 0 0)) := by
  obtain ⟨a0, nx, a, a1, a2, a3, a4, a5⟩ := h.2.2.2.2.2.2.1
  exact ⟨nx, a, a1, a2, a3, a4, by rw [← a0]; exact a3, a5⟩
theorem ActX.hi {I' : pmI} {P' : pmP} {nx a T c T' c' : Nat} {w w' : Nat → Int32} (h : ActX S I I' P P' nx a w T c w' T' c') (hnx : nx < 25) {k : Nat} (hk : 552 ≤ k) : I' k = I k := h.1 k (by omega) (by omega)
theorem ActX.mg {I' : pmI} {P' : pmP} {nx a T c T' c' : Nat} {w w' : Nat → Int32} (h : ActX S I I' P P' nx a w T c w' T' c') (hM : MG S P 660) : MG S P' 660 := hM.fr (h.2.2.2.2.2.1 660 (by omega) (by omega))
theorem st_back (h : LW S I P) : ST E yX9_back yX10_back [] S I P := by
  obtain ⟨nx, a, x1, x2, x3, x4, x5, hh⟩ := h.hist
  rcases hh with ⟨n, T, t, c, v1, v2, v3, v4⟩ | ⟨v0, v1, v2, v3⟩
  · refine k_X9_back h.2.1 x1 x2 x3 x4 v3 v1 (fun hno I' hF => ?_) (fun hm I' P' hA => ?_)
    · have e6 : I' (660 + 6) = I 666 := hF 666 (by omega)
      refine ⟨_, rfl, h.2.2.1.1, k_X10_back h.2.2.1 (n := n) (T := T) (t := t) (c := c) (a := a) (by rw [e6]; exact v1) (by rw [hF 660 (by omega)]; exact x5) x4 (fun _ => ⟨rfl, h.refused x1 x2 hF⟩) (fun z => ?_)⟩
      rw [e6, if_pos rfl] at z
      exact absurd z hno
    · have e6 : I' (660 + 6) = I 666 := hA.hi x2 (k := 666) (by omega)
      refine ⟨_, rfl, h.2.2.1.1, k_X10_back (hA.mg h.2.2.1) (n := n) (T := T) (t := t) (c := c) (a := a) (by rw [e6]; exact v1) (by rw [hA.hi x2 (k := 660) (by omega)]; exact x5) x4 (fun z => ?_) (fun _ I'' hB => ?_)⟩
      · rw [e6, if_pos rfl] at z
        exact absurd hm z
      · rw [e6] at hB ⊢
        have hvk : VK (I 666) (goesF (I 666) t 0) n := by
          have := v1.vkP (d := 0) (by omega) (v1.mayB.mpr hm)
          rw [v1.doG (by omega)] at this
          exact this
        exact ⟨rfl, h.act v1 v2 v4 x2 x4 hA hB (v1.goB hm) hvk.2.1⟩
  · refine k_X9_back0 h.2.1 v3 v1 x1 x2 (fun I' hF => ⟨_, rfl, h.2.2.1.1, k_X10_back0 h.2.2.1 (by rw [show I' (660 + 6) = I 666 from hF 666 (by omega)]; exact v1) ⟨rfl, h.refused x1 x2 hF⟩⟩)
theorem st_forward (h : LW S I P) : ST E yX9_forward yX10_forward [] S I P := by
  obtain ⟨nx, a, x1, x2, x3, x4, x5, hh⟩ := h.hist
  rcases hh with ⟨n, T, t, c, v1, v2, v3, v4⟩ | ⟨v0, v1, v2, v3⟩
  · refine k_X9_forward h.2.1 x1 x2 x3 x4 v3 v1 (fun hno I' hF => ?_) (fun hm I' P' hA => ?_)
    · have e6 : I' (660 + 6) = I 666 := hF 666 (by omega)
      refine ⟨_, rfl, h.2.2.1.1, k_X10_forward h.2.2.1 (n := n) (T := T) (t := t) (c := c) (a := a) (by rw [e6]; exact v1) (by rw [hF 660 (by omega)]; exact x5) x4 (fun _ => ⟨rfl, h.refused x1 x2 hF⟩) (fun z => ?_)⟩
      rw [e6, if_neg (by decide)] at z
      exact absurd z hno
    · have e6 : I' (660 + 6) = I 666 := hA.hi x2 (k := 666) (by omega)
      refine ⟨_, rfl, h.2.2.1.1, k_X10_forward (hA.mg h.2.2.1) (n := n) (T := T) (t := t) (c := c) (a := a) (by rw [e6]; exact v1) (by rw [hA.hi x2 (k := 660) (by omega)]; exact x5) x4 (fun z => ?_) (fun _ I'' hB => ?_)⟩
      · rw [e6, if_neg (by decide)] at z
        exact absurd hm z
      · rw [e6] at hB ⊢
        have hvk : VK (I 666) (goesF (I 666) t 1) n := by
          have := v1.vkP (d := 1) (by omega) (v1.mayF.mpr hm)
          rw [v1.doG (by omega)] at this
          exact this
        exact ⟨rfl, h.act v1 v2 v4 x2 x4 hA hB (v1.goF hm) hvk.2.1⟩
  · refine k_X9_forward0 h.2.1 v3 v1 x1 x2 (fun I' hF => ⟨_, rfl, h.2.2.1.1, k_X10_forward0 h.2.2.1 (by rw [show I' (660 + 6) = I 666 from hF 666 (by omega)]; exact v1) ⟨rfl, h.refused x1 x2 hF⟩⟩)
theorem st_follow (h : LW S I P) (j : Int32) : ST E yX9_follow yX10_follow [.int j] S I P := by
  obtain ⟨nx, a, x1, x2, x3, x4, x5, hh⟩ := h.hist
  rcases hh with ⟨n, T, t, c, v1, v2, v3, v4⟩ | ⟨v0, v1, v2, v3⟩
  · obtain ⟨s, p, hN, hp⟩ := v1.nw
    obtain ⟨cn, c1, c2, c3, c4⟩ := v1.2.2.2.2.1 p hp
    refine k_X9_follow h.2.1 x1 x2 x3 x4 v3 v1 v2 hN c1 (fun hb => ⟨_, rfl, h.2.2.1.1, k_X10_follow h.2.2.1 (n := n) (T := T) (t := t) (c := c) (a := a) (s0 := s) (p0 := p) (cn := cn) v1 x5 x4 hN c1 (fun _ => ⟨rfl, h⟩) (fun _ z => absurd z hb) (fun jn q1 q2 _ => absurd ⟨jn, q1, by omega⟩ hb)⟩) (fun hno hj I' hF => ?_) (fun jn q1 q2 q3 I' P' hA => ?_)
    · have e6 : I' (660 + 6) = I 666 := hF 666 (by omega)
      refine ⟨_, rfl, h.2.2.1.1, k_X10_follow h.2.2.1 (n := n) (T := T) (t := t) (c := c) (a := a) (s0 := s) (p0 := p) (cn := cn) (by rw [e6]; exact v1) (by rw [hF 660 (by omega)]; exact x5) x4 (by rw [e6]; exact hN) (by rw [e6]; exact c1) (fun hb => absurd hj hb) (fun _ _ => ⟨rfl, h.refused x1 x2 hF⟩) (fun jn q1 q2 q3 => ?_)⟩
      rw [e6] at q3
      exact absurd ⟨by omega, by omega, q3⟩ hno
    · have e6 : I' (660 + 6) = I 666 := hA.hi x2 (k := 666) (by omega)
      refine ⟨_, rfl, h.2.2.1.1, k_X10_follow (hA.mg h.2.2.1) (n := n) (T := T) (t := t) (c := c) (a := a) (s0 := s) (p0 := p) (cn := cn) (by rw [e6]; exact v1) (by rw [hA.hi x2 (k := 660) (by omega)]; exact x5) x4 (by rw [e6]; exact hN) (by rw [e6]; exact c1) (fun hb => absurd ⟨jn, q1, by omega⟩ hb) (fun z _ => ?_) (fun jn' p1 p2 p3 I'' hB => ?_)⟩
      · rw [e6] at z
        exact absurd ⟨by omega, by omega, q3⟩ z
      · obtain rfl : jn' = jn := by omega
        rw [e6] at hB ⊢
        have hvk : VK (I 666) (followsF (I 666) T t s p jn') n := by
          have := v1.vkP (d := jn' + 2) (by omega) ((v1.mayL hN c1 (by omega)).mpr ⟨by omega, q3⟩)
          rw [v1.doL hN (by omega), show jn' + 2 - 2 = jn' by omega] at this
          exact this
        exact ⟨rfl, h.act v1 v2 v4 x2 x4 hA hB (v1.follows' hN.2.2.1 hp c1 q2 q3) hvk.2.1⟩
  · exact k_X9_follow0 h.2.1 v2 ⟨_, rfl, h.2.2.1.1, k_X10_follow0 h.2.2.1 v1 ⟨rfl, h⟩⟩
theorem st_select (h : LW S I P) (tab : Int32) : ST E yX9_select yX10_select [.int tab] S I P := by
  obtain ⟨nx, a, x1, x2, x3, x4, x5, hh⟩ := h.hist
  rcases hh with ⟨n, T, t, c, v1, v2, v3, v4⟩ | ⟨v0, v1, v2, v3⟩
  · refine k_X9_select h.2.1 x1 x2 x3 x4 v3 v1 (fun hb => ⟨_, rfl, h.2.2.1.1, k_X10_select h.2.2.1 (n := n) (T := T) (t := t) (c := c) (a := a) v1 x5 x4 (fun _ => ⟨rfl, h⟩) (fun i q1 q2 _ => absurd ⟨i, q1, q2⟩ hb) (fun i q1 q2 _ => absurd ⟨i, q1, q2⟩ hb)⟩) (fun i q1 q2 q3 I' hF => ?_) (fun i q1 q2 q3 I' P' hA => ?_)
    · have e6 : I' (660 + 6) = I 666 := hF 666 (by omega)
      refine ⟨_, rfl, h.2.2.1.1, k_X10_select h.2.2.1 (n := n) (T := T) (t := t) (c := c) (a := a) (by rw [e6]; exact v1) (by rw [hF 660 (by omega)]; exact x5) x4 (fun hb => absurd ⟨i, q1, q2⟩ hb) (fun _ _ _ _ => ⟨rfl, h.refused x1 x2 hF⟩) (fun i' p1 p2 p3 => ?_)⟩
      rw [e6] at p3
      exact absurd q3 p3
    · have e6 : I' (660 + 6) = I 666 := hA.hi x2 (k := 666) (by omega)
      refine ⟨_, rfl, h.2.2.1.1, k_X10_select (hA.mg h.2.2.1) (n := n) (T := T) (t := t) (c := c) (a := a) (by rw [e6]; exact v1) (by rw [hA.hi x2 (k := 660) (by omega)]; exact x5) x4 (fun hb => absurd ⟨i, q1, q2⟩ hb) (fun i' p1 p2 p3 => ?_) (fun i' p1 p2 p3 I'' hB => ?_)⟩
      · rw [e6] at p3
        exact absurd p3 q3
      · rw [e6] at hB ⊢
        exact ⟨rfl, h.act v1 v2 v4 x2 x4 hA hB (v1.sel q1 q2) (v1.vkS q1 q2).2.1⟩
  · exact k_X9_select0 h.2.1 v3 v1 ⟨_, rfl, h.2.2.1.1, k_X10_select0 h.2.2.1 v1 ⟨rfl, h⟩⟩
theorem st_open (h : LW S I P) (page : Int32) : ST E yX9_open yX10_open [.int page] S I P := by
  obtain ⟨nx, a, x1, x2, x3, x4, x5, hh⟩ := h.hist
  rcases hh with ⟨n, T, t, c, v1, v2, v3, v4⟩ | ⟨v0, v1, v2, v3⟩
  · refine k_X9_open h.2.1 x1 x2 x3 x4 v3 v1 v2 (fun hb => ⟨_, rfl, h.2.2.1.1, k_X10_open h.2.2.1 (n := n) (T := T) (t := t) (c := c) (a := a) v1 x5 x4 (fun _ => ⟨rfl, h⟩) (fun i q1 q2 _ => absurd ⟨i, q1, q2⟩ hb) (fun i q1 q2 _ => absurd ⟨i, q1, q2⟩ hb)⟩) (fun i q1 q2 q3 I' hF => ?_) (fun i q1 q2 q3 I' P' hA => ?_)
    · have e6 : I' (660 + 6) = I 666 := hF 666 (by omega)
      exact ⟨_, rfl, h.2.2.1.1, k_X10_open h.2.2.1 (n := n) (T := T) (t := t) (c := c) (a := a) (by rw [e6]; exact v1) (by rw [hF 660 (by omega)]; exact x5) x4 (fun hb => absurd ⟨i, q1, q2⟩ hb) (fun _ _ _ _ => ⟨rfl, h.refused x1 x2 hF⟩) (fun i' p1 p2 p3 => absurd p3 q3)⟩
    · have e6 : I' (660 + 6) = I 666 := hA.hi x2 (k := 666) (by omega)
      refine ⟨_, rfl, h.2.2.1.1, k_X10_open (hA.mg h.2.2.1) (n := n) (T := T) (t := t) (c := c) (a := a) (by rw [e6]; exact v1) (by rw [hA.hi x2 (k := 660) (by omega)]; exact x5) x4 (fun hb => absurd ⟨i, q1, q2⟩ hb) (fun i' p1 p2 p3 => absurd q3 p3) (fun i' p1 p2 p3 I'' hB => ?_)⟩
      rw [e6] at hB
      exact ⟨rfl, h.act v1 v2 v4 x2 x4 hA hB (v1.opens q3 q1 q2) (v1.vkO q3 q1 q2).2.1⟩
  · exact k_X9_open0 h.2.1 v2 ⟨_, rfl, h.2.2.1.1, k_X10_open0 h.2.2.1 v1 ⟨rfl, h⟩⟩
theorem st_close (h : LW S I P) : ST E yX9_close yX10_close [] S I P := by
  obtain ⟨nx, a, x1, x2, x3, x4, x5, hh⟩ := h.hist
  rcases hh with ⟨n, T, t, c, v1, v2, v3, v4⟩ | ⟨v0, v1, v2, v3⟩
  · refine k_X9_close h.2.1 x1 x2 x3 x4 v3 v1 (fun q3 I' hF => ?_) (fun q3 I' P' hA => ?_)
    · have e6 : I' (660 + 6) = I 666 := hF 666 (by omega)
      exact ⟨_, rfl, h.2.2.1.1, k_X10_close h.2.2.1 (n := n) (T := T) (t := t) (c := c) (a := a) (by rw [e6]; exact v1) (by rw [hF 660 (by omega)]; exact x5) x4 (fun _ => ⟨rfl, h.refused x1 x2 hF⟩) (fun p3 => absurd p3 q3)⟩
    · have e6 : I' (660 + 6) = I 666 := hA.hi x2 (k := 666) (by omega)
      refine ⟨_, rfl, h.2.2.1.1, k_X10_close (hA.mg h.2.2.1) (n := n) (T := T) (t := t) (c := c) (a := a) (by rw [e6]; exact v1) (by rw [hA.hi x2 (k := 660) (by omega)]; exact x5) x4 (fun p3 => absurd q3 p3) (fun p3 I'' hB => ?_)⟩
      rw [e6] at hB ⊢
      exact ⟨rfl, h.act v1 v2 v4 x2 x4 hA hB (v1.closes q3) (v1.vkC q3).2.1⟩
  · refine k_X9_close0 h.2.1 v3 v1 x1 x2 (fun I' hF => ⟨_, rfl, h.2.2.1.1, k_X10_close0 h.2.2.1 (by rw [show I' (660 + 6) = I 666 from hF 666 (by omega)]; exact v1) ⟨rfl, h.refused x1 x2 hF⟩⟩)
theorem st_again (h : LW S I P) : ST E yX9_again yX10_again [] S I P := by
  obtain ⟨nx, a, x1, x2, x3, x4, x5, hh⟩ := h.hist
  rcases hh with ⟨n, T, t, c, v1, v2, v3, v4⟩ | ⟨v0, v1, v2, v3⟩
  · refine k_X9_again h.2.1 x1 x2 x3 x4 v3 v1 (fun q3 I' hF => ?_) (fun q3 q4 I' P' hA => ?_)
    · have e6 : I' (660 + 6) = I 666 := hF 666 (by omega)
      exact ⟨_, rfl, h.2.2.1.1, k_X10_again h.2.2.1 (n := n) (T := T) (t := t) (c := c) (a := a) (by rw [e6]; exact v1) (by rw [hF 660 (by omega)]; exact x5) x4 (fun _ => ⟨rfl, h.refused x1 x2 hF⟩) (fun p3 p4 => absurd ⟨p3, p4⟩ q3)⟩
    · have e6 : I' (660 + 6) = I 666 := hA.hi x2 (k := 666) (by omega)
      refine ⟨_, rfl, h.2.2.1.1, k_X10_again (hA.mg h.2.2.1) (n := n) (T := T) (t := t) (c := c) (a := a) (by rw [e6]; exact v1) (by rw [hA.hi x2 (k := 660) (by omega)]; exact x5) x4 (fun p3 => absurd ⟨q3, q4⟩ p3) (fun p3 p4 I'' hB => ?_)⟩
      rw [e6] at hB
      exact ⟨rfl, h.act v1 v2 v4 x2 x4 hA hB (v1.again q4 q3) (v1.vkA q4 q3).2.1⟩
  · refine k_X9_again0 h.2.1 v3 v1 x1 x2 (fun I' hF => ⟨_, rfl, h.2.2.1.1, k_X10_again0 h.2.2.1 (by rw [show I' (660 + 6) = I 666 from hF 666 (by omega)]; exact v1) ⟨rfl, h.refused x1 x2 hF⟩⟩)
theorem st_undo (h : LW S I P) : ST E yX9_undo yX10_undo [] S I P := by
  obtain ⟨nx, a, x1, x2, x3, x4, x5, hh⟩ := h.hist
  by_cases ha : a = 0
  · subst ha
    exact k_X9_undo h.2.1 x1 x2 x3 x4 (T := 0) (c := 0) (w := I 666) (fun z => absurd z (by omega)) (fun _ => ⟨_, rfl, h.2.2.1.1, k_X10_undo h.2.2.1 (a := 0) x5 x4 (fun _ => ⟨rfl, h⟩) (fun z => absurd z (by omega))⟩) (fun z => absurd z (by omega))
  · rcases hh with ⟨n, T, t, c, v1, v2, v3, v4⟩ | ⟨v0, v1, v2, v3⟩
    · obtain ⟨T1, t1, c1, y1, y2, y3⟩ := v4 (a - 1) (by omega)
      rw [show (nx + 25 - a + (a - 1)) % 25 = (nx + 24) % 25 by congr 1; omega] at y3
      refine k_X9_undo h.2.1 x1 x2 x3 x4 (T := T1) (c := c1) (w := pastR I (a - 1)) (fun _ => ⟨y3, y1.2.1.1, y1.2.1.2.2, y1.2.2.2.1.1, y1.2.2.2.1.2, fun i hi => (y1.2.2.2.2.2.1 i hi).l6, fun i hi => (y1.2.2.2.2.2.2.1 i hi).l6⟩) (fun z => absurd z ha) (fun _ J f1 e1 e2 D1 => ?_)
      refine ⟨_, rfl, h.2.2.1.1, k_X10_undo h.2.2.1 (a := a) (by rw [f1 660 (by omega)]; exact x5) x4 (fun z => absurd z ha) (fun _ K g1 g2 g3 g4 => ⟨rfl, ?_⟩)⟩
      obtain ⟨hs, hX, hM, h1, h2, h3, h4, h5, h6⟩ := h
      have F : ∀ k, k < 30 ∨ 50 < k → k ≠ 660 → k ≠ 666 → K k = I k := fun k q1 q2 q3 => (g1 k q2 q3).trans (f1 k q1)
      have G6 : ∀ j, j ≠ 17 → K 660 j = I 660 j := fun j hj => (g2 j hj).trans (by rw [f1 660 (by omega)])
      have e4 : E4 (K 666) (pastR I (a - 1)) := fun i hi => by
        rw [show K 666 = va_cpy (J (660 + 9)) (J (660 + 6)) (124 * (a - 1)) 0 124 from g4, cpy_in (by omega), show J (660 + 9) = I 669 from f1 669 (by omega)]
        show I 669 (124 * (a - 1) + (i - 0)) = I 669 (124 * (a - 1) + i)
        rw [Nat.sub_zero]
      have hm := Nat.mod_lt (nx + 24) (show 0 < 25 by omega)
      refine ⟨hs, hX, hM, by rw [F 0 (by omega) (by omega) (by omega), G6 4 (by omega)]; exact h1, h2.fr (fun k q1 q2 => F k (by omega) (by omega) (by omega)) (F _ (by omega) (by omega) (by omega)) (F _ (by omega) (by omega) (by omega)) (F _ (by omega) (by omega) (by omega)), h3.fr (by rw [F 2 (by omega) (by omega) (by omega)]) (by rw [F 2 (by omega) (by omega) (by omega)]) (F _ (by omega) (by omega) (by omega)) (G6 _ (by omega)) (G6 _ (by omega)) (F _ (by omega) (by omega) (by omega)), ⟨by rw [g1 50 (by omega) (by omega), e2, g3], (nx + 24) % 25, a - 1, by rw [g1 50 (by omega) (by omega), e1]; exact iN_ti (by omega), hm, by rw [g1 50 (by omega) (by omega), e2]; exact iN_ti (by omega), by omega, Or.inl ⟨n, T1, t1, c1, y1.e4 e4, (y2.congr (fun k q1 q2 => F k (by omega) (by omega) (by omega))).e4 y1.2.2.2.2.1 y1.1.2.2 e4, (D1.congr hX.dk y1.2.1.2.2 y1.2.2.2.1.2 (fun _ _ _ => rfl) (fun k q1 q2 => g1 k (by omega) (by omega))).e4 y1 e4, fun j hj => ?_⟩⟩, h5.fr hX (F _ (by omega) (by omega) (by omega)) (F _ (by omega) (by omega) (by omega)) (fun k q1 q2 => F k (by omega) (by omega) (by omega)) (fun _ _ _ => rfl), h6.fr (by rw [F 594 (by omega) (by omega) (by omega)]) (F _ (by omega) (by omega) (by omega)) (G6 _ (by omega)) (F _ (by omega) (by omega) (by omega))⟩
      obtain ⟨T2, t2, c2, w1, w2, w3⟩ := v4 j (by omega)
      have ep : pastR K j = pastR I j := by unfold pastR; rw [F 669 (by omega) (by omega) (by omega)]
      have hm2 := Nat.mod_lt (nx + 25 - a + j) (show 0 < 25 by omega)
      rw [ep, show ((nx + 24) % 25 + 25 - (a - 1) + j) % 25 = (nx + 25 - a + j) % 25 by omega]
      exact ⟨T2, t2, c2, w1, w2.congr (fun k q1 q2 => F k (by omega) (by omega) (by omega)), w3.congr (hX.hd hm2) w1.2.1.2.2 w1.2.2.2.1.2 (fun _ _ _ => rfl) (fun k q1 q2 => F k (by omega) (by omega) (by omega))⟩
    · exact absurd v0 ha
theorem st_image (h : LW S I P) (k : Int32) : ST E yX9_image yX10_image [.int k] S I P := by
  rcases h.webs with ⟨n, T, t, c, v1, v2, v3⟩ | ⟨v1, v2, v3⟩
  · have hn2 := v1.1.2.1
    refine k_X9_image h.2.1 v3 v1 v2 (fun hb => ⟨_, rfl, h.2.2.1.1, k_X10_image h.2.2.1 (n := n) v1.1.1 (fun _ => ⟨rfl, h⟩) (fun q q1 q2 _ => absurd ⟨q, q1, q2⟩ hb) (fun q q1 q2 _ => absurd ⟨q, q1, q2⟩ hb)⟩) (fun q q1 q2 J f1 e1 W1 D1 => ?_)
    have e6 : J (660 + 6) = I 666 := f1 666 (by omega)
    refine ⟨_, rfl, h.2.2.1.1, k_X10_image h.2.2.1 (n := n) (by rw [e6]; exact v1.1.1) (fun hb => absurd ⟨q, q1, q2⟩ hb) (fun _ _ _ z => absurd (by omega) z) (fun q' p1 p2 _ => ⟨rfl, ?_⟩)⟩
    obtain rfl : q' = q := by omega
    rw [e6, show J (660 + 10) = I 670 from f1 670 (by omega), show J (660 + 11) = I 671 from f1 671 (by omega)]
    have A1 : ∀ x, x ≠ 670 → x ≠ 671 → va_up (va_up J (660 + 10) (va_cpy (I 666) (I 670) 0 (124 * q') 124)) (660 + 11) (va_up (I 671) q' 1) x = J x := fun x a b => by rw [va_ne' (show x ≠ 660 + 11 from b), va_ne' (show x ≠ 660 + 10 from a)]
    have A0 : va_up (va_up J (660 + 10) (va_cpy (I 666) (I 670) 0 (124 * q') 124)) (660 + 11) (va_up (I 671) q' 1) 670 = va_cpy (I 666) (I 670) 0 (124 * q') 124 := by rw [va_ne' (by omega), va_at' (show 670 = 660 + 10 from rfl)]
    have A2 : va_up (va_up J (660 + 10) (va_cpy (I 666) (I 670) 0 (124 * q') 124)) (660 + 11) (va_up (I 671) q' 1) 671 = va_up (I 671) q' 1 := va_at' (show 671 = 660 + 11 from rfl)
    generalize va_up (va_up J (660 + 10) (va_cpy (I 666) (I 670) 0 (124 * q') 124)) (660 + 11) (va_up (I 671) q' 1) = K at A0 A1 A2 ⊢
    obtain ⟨hs, hX, hM, h1, h2, h3, h4, h5, h6⟩ := h
    have F : ∀ x, x < 612 ∨ 660 ≤ x → x ≠ 670 → x ≠ 671 → K x = I x := fun x q1 q2 q3 => (A1 x q2 q3).trans (f1 x (by omega))
    refine ⟨hs, hX, hM, by rw [F 0 (by omega) (by omega) (by omega), F 660 (by omega) (by omega) (by omega)]; exact h1, h2.fr (fun k q1 q2 => F k (by omega) (by omega) (by omega)) (F _ (by omega) (by omega) (by omega)) (F _ (by omega) (by omega) (by omega)) (F _ (by omega) (by omega) (by omega)), h3.fr (by rw [F 2 (by omega) (by omega) (by omega)]) (by rw [F 2 (by omega) (by omega) (by omega)]) (F _ (by omega) (by omega) (by omega)) (by rw [F 660 (by omega) (by omega) (by omega)]) (by rw [F 660 (by omega) (by omega) (by omega)]) (F _ (by omega) (by omega) (by omega)), h4.fr hX (by rw [F 50 (by omega) (by omega) (by omega)]) (by rw [F 50 (by omega) (by omega) (by omega)]) (by rw [F 660 (by omega) (by omega) (by omega)]) (F _ (by omega) (by omega) (by omega)) (F _ (by omega) (by omega) (by omega)) (fun k q1 q2 => F k (by omega) (by omega) (by omega)) (fun k q1 q2 => F k (by omega) (by omega) (by omega)) (fun _ _ _ => rfl) (fun _ _ _ => rfl), fun l hl => ?_, h6.fr (by rw [F 594 (by omega) (by omega) (by omega)]) (F _ (by omega) (by omega) (by omega)) (by rw [F 660 (by omega) (by omega) (by omega)]) (F _ (by omega) (by omega) (by omega))⟩
    by_cases hlq : l = q'
    · subst hlq
      have e4 : E4 (imgR K l) (I 666) := fun i hi => by
        unfold imgR
        rw [A0, cpy_in (by omega), show 0 + (124 * l + i - 124 * l) = i by omega]
      refine Or.inr ⟨by rw [A1 _ (by omega) (by omega), e1]; decide, by rw [A2, va_at' rfl]; decide, n, T, t, c, v1.e4 e4, (W1.congr (fun k q1 q2 => A1 k (by omega) (by omega))).e4 v1.2.2.2.2.1 v1.1.2.2 e4, (D1.congr (hX.im hl) v1.2.1.2.2 v1.2.2.2.1.2 (fun _ _ _ => rfl) (fun k q1 q2 => A1 k (by omega) (by omega))).e4 v1 e4⟩
    · have G : ∀ x, 612 + 24 * l ≤ x → x < 636 + 24 * l → K x = I x := fun x q1 q2 => (A1 x (by omega) (by omega)).trans (f1 x (by omega))
      have e4 : E4 (imgR K l) (imgR I l) := fun i hi => by
        unfold imgR
        rw [A0, cpy_off (by omega)]
      rw [G (612 + 24 * l) (by omega) (by omega), A2, va_ne' hlq]
      rcases h5 l hl with y | ⟨y1, y2, n9, T9, t9, c9, w1, w2, w3⟩
      · exact Or.inl y
      · exact Or.inr ⟨y1, y2, n9, T9, t9, c9, w1.e4 e4, (w2.congr (fun k q1 q2 => G k (by omega) (by omega))).e4 w1.2.2.2.2.1 w1.1.2.2 e4, (w3.congr (hX.im hl) w1.2.1.2.2 w1.2.2.2.1.2 (fun _ _ _ => rfl) (fun k q1 q2 => G k (by omega) (by omega))).e4 w1 e4⟩
  · exact k_X9_image0 h.2.1 v2 (fun hb => ⟨_, rfl, h.2.2.1.1, k_X10_image h.2.2.1 (n := 0) (by rw [show I (660 + 6) = I 666 from rfl, v1.1]; rfl) (fun _ => ⟨rfl, h⟩) (fun q q1 q2 _ => absurd ⟨q, q1, q2⟩ hb) (fun q q1 q2 _ => absurd ⟨q, q1, q2⟩ hb)⟩) (fun q q1 q2 => ⟨_, rfl, h.2.2.1.1, k_X10_image h.2.2.1 (n := 0) (by rw [show I (660 + 6) = I 666 from rfl, v1.1]; rfl) (fun hb => absurd ⟨q, q1, q2⟩ hb) (fun _ _ _ _ => ⟨rfl, h⟩) (fun _ _ _ z => absurd z (by omega))⟩)
theorem st_restore (h : LW S I P) (k : Int32) : ST E yX9_restore yX10_restore [.int k] S I P := by
  have hG := h.2.2.2.2.2.2.2.1
  have hz : ∀ q, q < 2 → (I (612 + 24 * q) 2 = 0 ↔ I 671 q = 0) := fun q hq => by
    rcases hG q hq with ⟨y1, y2⟩ | ⟨y1, y2, _⟩
    · exact ⟨fun _ => y2, fun _ => y1⟩
    · exact ⟨fun z => absurd z y1, fun z => absurd z y2⟩
  refine k_X9_restore h.2.1 (fun hb => ⟨_, rfl, h.2.2.1.1, k_X10_restore h.2.2.1 (fun _ => ⟨rfl, h⟩) (fun q q1 q2 _ => absurd ⟨q, q1, q2⟩ hb) (fun q q1 q2 _ => absurd ⟨q, q1, q2⟩ hb)⟩) (fun q q1 q2 q3 => ⟨_, rfl, h.2.2.1.1, k_X10_restore h.2.2.1 (fun hb => absurd ⟨q, q1, q2⟩ hb) (fun _ _ _ _ => ⟨rfl, h⟩) (fun q' p1 p2 p3 => ?_)⟩) (fun q q2 q3 => ?_)
  · obtain rfl : q' = q := by omega
    exact absurd ((hz q' q2).mp q3) p3
  · rcases hG q q2 with ⟨y1, _⟩ | ⟨y1, y2, n, T, t, c, w1, w2, w3⟩
    · exact absurd y1 q3
    · refine ⟨imgR I q, n, T, t, c, w2, w3, w1, fun q1 J f1 e1 e2 W1 D1 => ⟨_, rfl, h.2.2.1.1, k_X10_restore h.2.2.1 (fun hb => absurd ⟨q, q1, q2⟩ hb) (fun q' p1 p2 p3 => ?_) (fun q' p1 p2 p3 => ⟨rfl, ?_⟩)⟩⟩
      · obtain rfl : q' = q := by omega
        rw [show J (660 + 11) = I 671 from f1 671 (by omega)] at p3
        exact absurd p3 y2
      · obtain rfl : q' = q := by omega
        rw [show J (660 + 10) = I 670 from f1 670 (by omega), show J (660 + 6) = I 666 from f1 666 (by omega), f1 660 (by omega)]
        have A1 : ∀ x, x ≠ 660 → x ≠ 666 → va_up (va_up J (660 + 6) (va_cpy (I 670) (I 666) (124 * q') 0 124)) 660 (va_up (I 660) 17 0) x = J x := fun x a b => by rw [va_ne' a, va_ne' (show x ≠ 660 + 6 from b)]
        have A0 : va_up (va_up J (660 + 6) (va_cpy (I 670) (I 666) (124 * q') 0 124)) 660 (va_up (I 660) 17 0) 666 = va_cpy (I 670) (I 666) (124 * q') 0 124 := by rw [va_ne' (by omega), va_at' (show 666 = 660 + 6 from rfl)]
        have A2 : va_up (va_up J (660 + 6) (va_cpy (I 670) (I 666) (124 * q') 0 124)) 660 (va_up (I 660) 17 0) 660 = va_up (I 660) 17 0 := va_at' rfl
        generalize va_up (va_up J (660 + 6) (va_cpy (I 670) (I 666) (124 * q') 0 124)) 660 (va_up (I 660) 17 0) = K at A0 A1 A2 ⊢
        obtain ⟨hs, hX, hM, h1, h2, h3, ⟨a0, nx, a, a1, a2, a3, a4, a5⟩, h5, h6⟩ := h
        have F : ∀ x, x < 27 ∨ 50 < x → x ≠ 660 → x ≠ 666 → K x = I x := fun x q1 q2 q3 => (A1 x q2 q3).trans (f1 x (by omega))
        have G6 : ∀ j, j ≠ 17 → K 660 j = I 660 j := fun j hj => by rw [A2, va_ne' hj]
        have e4 : E4 (K 666) (imgR I q') := fun i hi => by
          rw [A0, cpy_in (by omega)]
          show I 670 (124 * q' + (i - 0)) = I 670 (124 * q' + i)
          rw [Nat.sub_zero]
        exact ⟨hs, hX, hM, by rw [F 0 (by omega) (by omega) (by omega), G6 4 (by omega)]; exact h1, h2.fr (fun k q1 q2 => F k (by omega) (by omega) (by omega)) (F _ (by omega) (by omega) (by omega)) (F _ (by omega) (by omega) (by omega)) (F _ (by omega) (by omega) (by omega)), h3.fr (by rw [F 2 (by omega) (by omega) (by omega)]) (by rw [F 2 (by omega) (by omega) (by omega)]) (F _ (by omega) (by omega) (by omega)) (G6 _ (by omega)) (G6 _ (by omega)) (F _ (by omega) (by omega) (by omega)), ⟨by rw [A1 50 (by omega) (by omega), e2, A2, va_at' rfl], nx, 0, by rw [A1 50 (by omega) (by omega), e1]; exact a1, a2, by rw [A1 50 (by omega) (by omega), e2]; rfl, by omega, Or.inl ⟨n, T, t, c, w1.e4 e4, (W1.congr (fun k q1 q2 => A1 k (by omega) (by omega))).e4 w1.2.2.2.2.1 w1.1.2.2 e4, (D1.congr hX.dk w1.2.1.2.2 w1.2.2.2.1.2 (fun _ _ _ => rfl) (fun k q1 q2 => A1 k (by omega) (by omega))).e4 w1 e4, fun j hj => absurd hj (by omega)⟩⟩, h5.fr hX (F _ (by omega) (by omega) (by omega)) (F _ (by omega) (by omega) (by omega)) (fun k q1 q2 => F k (by omega) (by omega) (by omega)) (fun _ _ _ => rfl), h6.fr (by rw [F 594 (by omega) (by omega) (by omega)]) (F _ (by omega) (by omega) (by omega)) (G6 _ (by omega)) (F _ (by omega) (by omega) (by omega))⟩
end STEPS4
