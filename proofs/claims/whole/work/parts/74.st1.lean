/-! a call of the class, then the same call of the reference: equal answers, and the invariant holds -/
def ST (E : pmE) (y9 y10 : MethodName) (as : List Value) (S : pmS) (I : pmI) (P : pmP) : Prop := pmX E 2000 0 0 y9 (rr E 0 :: as) S I P (fun v1 S1 I1 P1 => ∃ x : Int32, v1 = some (.int x) ∧ OB S1 660 10 ∧ pmX E 2000 0 0 y10 (rr E 660 :: as) S1 I1 P1 (fun v2 S2 I2 P2 => v2 = some (.int x) ∧ LW S2 I2 P2))
section STEPS
variable {E : pmE} {S : pmS} {I : pmI} {P : pmP}
theorem LW.tabs (h : LW S I P) : ∃ n T c, DR I P 30 (I 666) T c ∧ (I 666 1).toInt = (T : Int) ∧ T ≤ 5 ∧ ∀ i, i < T → TV (I 666) (44 + 10 * i) n := by
  obtain ⟨hs, hX, hM, h1, h2, h3, ⟨a0, nx, a, a1, a2, a3, a4, a5⟩, h5, h6⟩ := h
  rcases a5 with ⟨n, T, t, c, v1, v2, v3, v4⟩ | ⟨v0, v1, v2, v3⟩
  · exact ⟨n, T, c, v3, v1.2.1.1, v1.2.1.2.2, v1.2.2.2.2.2.1⟩
  · exact ⟨0, 0, 0, v3, by rw [v1.2.1]; rfl, by omega, fun i hi => absurd hi (by omega)⟩
theorem st_status (h : LW S I P) : ST E yX9_status yX10_status [] S I P :=
  k_X9_status h.2.1 ⟨_, rfl, h.2.2.1.1, k_X10_status h.2.2.1 ⟨by rw [h.2.2.2.1], h⟩⟩
theorem st_fault (h : LW S I P) : ST E yX9_fault yX10_fault [] S I P :=
  k_X9_fault h.2.1 ⟨_, rfl, h.2.2.1.1, k_X10_fault h.2.2.1 ⟨by rw [h.2.2.2.2.2.1.2.1], h⟩⟩
theorem st_kind (h : LW S I P) (tab : Int32) : ST E yX9_kind yX10_kind [.int tab] S I P := by
  obtain ⟨n, T, c, hD, hT, hT5, hTV⟩ := h.tabs
  refine k_X9_kind h.2.1 hD hT hT5 (fun hb => ⟨_, rfl, h.2.2.1.1, k_X10_kind h.2.2.1 (T := T) hT hT5 (fun _ => ⟨rfl, h⟩) (fun i q1 q2 => absurd ⟨i, q1, q2⟩ hb)⟩) (fun i q1 q2 => ⟨_, rfl, h.2.2.1.1, k_X10_kind h.2.2.1 (T := T) hT hT5 (fun hb => absurd ⟨i, q1, q2⟩ hb) (fun j p1 p2 => ?_)⟩)
  obtain rfl : j = i := by omega
  exact ⟨rfl, h⟩
theorem TV.kd {w : Nat → Int32} {k n : Nat} (h : TV w k n) : ∃ kd : Nat, (w k).toInt = (kd : Int) ∧ 1 ≤ kd ∧ kd ≤ 5 := by
  obtain ⟨kd, ho, l, s, u1, u2, u3, _⟩ := h
  exact ⟨kd, u1, u2, u3⟩
theorem TV.sn {w : Nat → Int32} {i n : Nat} (h : TV w (44 + 10 * i) n) : ∃ kd s : Nat, (w (44 + 10 * i)).toInt = (kd : Int) ∧ 1 ≤ kd ∧ kd ≤ 5 ∧ (w (47 + 10 * i)).toInt = (s : Int) ∧ s < 6 ∧ (s : Int) < (w (46 + 10 * i)).toInt := by
  obtain ⟨kd, ho, l, s, u1, u2, u3, u4, u5, u6, u7, u8, u9, u10, u11⟩ := h
  rw [show 44 + 10 * i + 3 = 47 + 10 * i by omega] at u9
  rw [show 44 + 10 * i + 2 = 46 + 10 * i by omega] at u6
  exact ⟨kd, s, u1, u2, u3, u9, by omega, by omega⟩
theorem st_as (h : LW S I P) (tab kind : Int32) : ST E yX9_as yX10_as [.int tab, .int kind] S I P := by
  obtain ⟨n, T, c, hD, hT, hT5, hTV⟩ := h.tabs
  have F : ∀ (v : Int32) (k : Nat), k ≠ 0 → va_up I 0 (va_up (I 0) 8 v) k = I k := fun v k hk => va_ne' hk
  have KT : ∀ v : Int32, ((va_up I 0 (va_up (I 0) 8 v)) (660 + 6) 1).toInt = (T : Int) := fun v => by rw [F v (660 + 6) (by omega)]; exact hT
  have FIN : ∀ v : Int32, LW S (va_up (va_up I 0 (va_up (I 0) 8 v)) 660 (va_up ((va_up I 0 (va_up (I 0) 8 v)) 660) 4 v)) P := fun v => h.st (v := v) (fun k _ q1 q2 => by rw [va_ne' q2, va_ne' q1]) (by rw [va_ne' (by omega), va_at' rfl, va_at' rfl]) (by rw [va_at' rfl, va_ne' (show 660 ≠ 0 by omega)])
  refine k_X9_as h.2.1 hD hT hT5 (fun i hi => (hTV i hi).kd) (fun hb => ⟨_, rfl, h.2.2.1.1, k_X10_as h.2.2.1 (T := T) hT hT5 (fun _ => ⟨rfl, h⟩) (fun i k q1 q2 q3 q4 _ => absurd ⟨i, k, q1, q2, q3, q4⟩ hb) (fun i k q1 q2 q3 q4 _ => absurd ⟨i, k, q1, q2, q3, q4⟩ hb)⟩) (fun i k q1 q2 q3 q4 q5 => ⟨_, rfl, h.2.2.1.1, k_X10_as h.2.2.1 (T := T) (KT 0) hT5 (fun hb => absurd ⟨i, k, q1, q2, q3, q4⟩ hb) (fun j l p1 p2 p3 p4 p5 => ⟨rfl, FIN 0⟩) (fun j l p1 p2 p3 p4 p5 => ?_)⟩) (fun i k q1 q2 q3 q4 q5 => ⟨_, rfl, h.2.2.1.1, k_X10_as h.2.2.1 (T := T) (KT 3) hT5 (fun hb => absurd ⟨i, k, q1, q2, q3, q4⟩ hb) (fun j l p1 p2 p3 p4 p5 => ?_) (fun j l p1 p2 p3 p4 p5 => ⟨rfl, FIN 3⟩)⟩)
  · obtain rfl : j = i := by omega
    rw [F 0 (660 + 6) (by omega)] at p5
    exact absurd q5 p5
  · obtain rfl : j = i := by omega
    rw [F 3 (660 + 6) (by omega)] at p5
    exact absurd p5 q5
theorem st_tab (h : LW S I P) (tab what : Int32) : ST E yX9_tab yX10_tab [.int tab, .int what] S I P := by
  obtain ⟨n, T, c, hD, hT, hT5, hTV⟩ := h.tabs
  have hsn : ∀ i, i < T → ∃ s : Nat, (I 666 (47 + 10 * i)).toInt = (s : Int) ∧ s < 6 ∧ (s : Int) < (I 666 (46 + 10 * i)).toInt := fun i hi => by
    obtain ⟨kd, s, _, _, _, x1, x2, x3⟩ := (hTV i hi).sn
    exact ⟨s, x1, x2, x3⟩
  have hsm : ∀ i, i < T → ∃ s : Nat, (I (660 + 6) (47 + 10 * i)).toInt = (s : Int) ∧ s < 6 := fun i hi => by
    obtain ⟨s, x1, x2, _⟩ := hsn i hi
    exact ⟨s, x1, x2⟩
  have ne : ∀ {a b : Int32}, what = a → what = b → ¬ a = b → False := fun p q r => r (p.symm.trans q)
  have no : ∀ {a : Int32}, what = a → (what.toInt < 0 ∨ 3 < what.toInt) → 0 ≤ a.toInt → a.toInt ≤ 3 → False := fun p q r s => by rw [p] at q; omega
  refine k_X9_tab h.2.1 hD hT hT5 hsn (fun hb => ⟨_, rfl, h.2.2.1.1, k_X10_tab h.2.2.1 (T := T) hT hT5 hsm (fun _ => ⟨rfl, h⟩) (fun i _ q1 q2 _ _ _ => absurd ⟨i, q1, q2⟩ hb) (fun i q1 q2 _ => absurd ⟨i, q1, q2⟩ hb) (fun i q1 q2 _ => absurd ⟨i, q1, q2⟩ hb) (fun i q1 q2 _ => absurd ⟨i, q1, q2⟩ hb) (fun i q1 q2 _ => absurd ⟨i, q1, q2⟩ hb)⟩) (fun i s q1 q2 q3 q4 q5 => ⟨_, rfl, h.2.2.1.1, k_X10_tab h.2.2.1 (T := T) hT hT5 hsm (fun hb => absurd ⟨i, q1, q2⟩ hb) (fun j s' p1 p2 p3 p4 p5 => ?_) (fun j p1 p2 p => (ne q5 p (by decide)).elim) (fun j p1 p2 p => (ne q5 p (by decide)).elim) (fun j p1 p2 p => (ne q5 p (by decide)).elim) (fun j p1 p2 p => (no q5 p (by decide) (by decide)).elim)⟩)
    (fun i q1 q2 q5 => ⟨_, rfl, h.2.2.1.1, k_X10_tab h.2.2.1 (T := T) hT hT5 hsm (fun hb => absurd ⟨i, q1, q2⟩ hb) (fun j s' p1 p2 p3 p4 p => (ne q5 p (by decide)).elim) (fun j p1 p2 p => ?_) (fun j p1 p2 p => (ne q5 p (by decide)).elim) (fun j p1 p2 p => (ne q5 p (by decide)).elim) (fun j p1 p2 p => (no q5 p (by decide) (by decide)).elim)⟩)
    (fun i q1 q2 q5 => ⟨_, rfl, h.2.2.1.1, k_X10_tab h.2.2.1 (T := T) hT hT5 hsm (fun hb => absurd ⟨i, q1, q2⟩ hb) (fun j s' p1 p2 p3 p4 p => (ne q5 p (by decide)).elim) (fun j p1 p2 p => (ne q5 p (by decide)).elim) (fun j p1 p2 p => ?_) (fun j p1 p2 p => (ne q5 p (by decide)).elim) (fun j p1 p2 p => (no q5 p (by decide) (by decide)).elim)⟩)
    (fun i q1 q2 q5 => ⟨_, rfl, h.2.2.1.1, k_X10_tab h.2.2.1 (T := T) hT hT5 hsm (fun hb => absurd ⟨i, q1, q2⟩ hb) (fun j s' p1 p2 p3 p4 p => (ne q5 p (by decide)).elim) (fun j p1 p2 p => (ne q5 p (by decide)).elim) (fun j p1 p2 p => (ne q5 p (by decide)).elim) (fun j p1 p2 p => ?_) (fun j p1 p2 p => (no q5 p (by decide) (by decide)).elim)⟩)
    (fun i q1 q2 q5 => ⟨_, rfl, h.2.2.1.1, k_X10_tab h.2.2.1 (T := T) hT hT5 hsm (fun hb => absurd ⟨i, q1, q2⟩ hb) (fun j s' p1 p2 p3 p4 p => (no p q5 (by decide) (by decide)).elim) (fun j p1 p2 p => (no p q5 (by decide) (by decide)).elim) (fun j p1 p2 p => (no p q5 (by decide) (by decide)).elim) (fun j p1 p2 p => (no p q5 (by decide) (by decide)).elim) (fun j p1 p2 p => ⟨rfl, h⟩)⟩)
  · obtain rfl : j = i := by omega
    have p3' : (I 666 (47 + 10 * j)).toInt = (s' : Int) := p3
    obtain rfl : s' = s := by omega
    exact ⟨rfl, h⟩
  · obtain rfl : j = i := by omega
    exact ⟨rfl, h⟩
  · obtain rfl : j = i := by omega
    exact ⟨rfl, h⟩
  · obtain rfl : j = i := by omega
    exact ⟨rfl, h⟩
theorem st_trail (h : LW S I P) (tab k : Int32) : ST E yX9_trail yX10_trail [.int tab, .int k] S I P := by
  obtain ⟨n, T, c, hD, hT, hT5, hTV⟩ := h.tabs
  have hln : ∀ i, i < T → (I 666 (46 + 10 * i)).toInt ≤ 6 := fun i hi => by
    have := (hTV i hi).l6
    rw [show 44 + 10 * i + 2 = 46 + 10 * i by omega] at this
    exact this
  refine k_X9_trail h.2.1 hD hT hT5 hln (fun hb => ⟨_, rfl, h.2.2.1.1, k_X10_trail h.2.2.1 (T := T) hT hT5 hln (fun _ => ⟨rfl, h⟩) (fun i j q1 q2 q3 _ => absurd ⟨i, j, q1, q2, q3⟩ hb) (fun i j q1 q2 q3 _ => absurd ⟨i, j, q1, q2, q3⟩ hb)⟩) (fun i j q1 q2 q3 q4 => ⟨_, rfl, h.2.2.1.1, k_X10_trail h.2.2.1 (T := T) hT hT5 hln (fun hb => absurd ⟨i, j, q1, q2, q3⟩ hb) (fun i' j' p1 p2 p3 p4 => ?_) (fun i' j' p1 p2 p3 p4 => ?_)⟩) (fun i j q1 q2 q3 q4 => ⟨_, rfl, h.2.2.1.1, k_X10_trail h.2.2.1 (T := T) hT hT5 hln (fun hb => absurd ⟨i, j, q1, q2, q3⟩ hb) (fun i' j' p1 p2 p3 p4 => ?_) (fun i' j' p1 p2 p3 p4 => ⟨rfl, h⟩)⟩)
  · obtain rfl : i' = i := by omega
    obtain rfl : j' = j := by omega
    exact ⟨rfl, h⟩
  · obtain rfl : i' = i := by omega
    exact absurd q4 p4
  · obtain rfl : i' = i := by omega
    exact absurd p4 q4
/-- the web, or none -/
theorem LW.webs (h : LW S I P) : (∃ n T t c, Vd (I 666) n T t c ∧ WR I 27 (I 666) n ∧ DR I P 30 (I 666) T c) ∨ (V0 (I 666) ∧ I 27 2 = 0 ∧ DR I P 30 (I 666) 0 0) := by
  obtain ⟨hs, hX, hM, h1, h2, h3, ⟨a0, nx, a, a1, a2, a3, a4, a5⟩, h5, h6⟩ := h
  rcases a5 with ⟨n, T, t, c, v1, v2, v3, v4⟩ | ⟨v0, v1, v2, v3⟩
  · exact Or.inl ⟨n, T, t, c, v1, v2, v3⟩
  · exact Or.inr ⟨v1, v2, v3⟩
theorem st_page (h : LW S I P) (page what : Int32) : ST E yX9_page yX10_page [.int page, .int what] S I P := by
  have key : ∃ n T c, DR I P 30 (I 666) T c ∧ WR I 27 (I 666) n ∧ (I 666 0).toInt = (n : Int) ∧ n ≤ 8 ∧ VL (I 666) n := by
    rcases h.webs with ⟨n, T, t, c, v1, v2, v3⟩ | ⟨v1, v2, v3⟩
    · exact ⟨n, T, c, v3, v2, v1.1.1, v1.1.2.2, v1.2.2.2.2.1⟩
    · exact ⟨0, 0, 0, v3, ⟨by rw [v2, v1.1], fun p hp => absurd hp (by omega)⟩, by rw [v1.1]; rfl, by omega, fun p hp => absurd hp (by omega)⟩
  obtain ⟨n, T, c, hD, hW, hn, h8, hv⟩ := key
  refine k_X9_page h.2.1 hD hW hn h8 hv (fun hb => ⟨_, rfl, h.2.2.1.1, k_X10_page h.2.2.1 (n := n) hn h8 (fun _ => ⟨rfl, h⟩) (fun q k q1 q2 q3 q4 _ => absurd ⟨q, k, q1, q2, q3, q4⟩ hb) (fun q k q1 q2 q3 q4 _ => absurd ⟨q, k, q1, q2, q3, q4⟩ hb)⟩) (fun q k q1 q2 q3 q4 q5 => ⟨_, rfl, h.2.2.1.1, k_X10_page h.2.2.1 (n := n) hn h8 (fun hb => absurd ⟨q, k, q1, q2, q3, q4⟩ hb) (fun q' k' p1 p2 p3 p4 p5 => ?_) (fun q' k' p1 p2 p3 p4 p5 => ?_)⟩) (fun q k q1 q2 q3 q4 q5 => ⟨_, rfl, h.2.2.1.1, k_X10_page h.2.2.1 (n := n) hn h8 (fun hb => absurd ⟨q, k, q1, q2, q3, q4⟩ hb) (fun q' k' p1 p2 p3 p4 p5 => ?_) (fun q' k' p1 p2 p3 p4 p5 => ⟨rfl, h⟩)⟩)
  · obtain rfl : q' = q := by omega
    obtain rfl : k' = k := by omega
    exact ⟨rfl, h⟩
  · obtain rfl : q' = q := by omega
    obtain rfl : k' = k := by omega
    exact absurd q5 p5
  · obtain rfl : q' = q := by omega
    obtain rfl : k' = k := by omega
    exact absurd p5 q5
theorem st_walk (h : LW S I P) (nn j : Int32) : ST E yX9_walk yX10_walk [.int nn, .int j] S I P := by
  rcases h.webs with ⟨n, T, t, c, v1, v2, v3⟩ | ⟨v1, v2, v3⟩
  · refine k_X9_walk h.2.1 v3 v1 v2 (fun hb => ⟨_, rfl, h.2.2.1.1, k_X10_walk h.2.2.1 (n := n) (T := T) (t := t) (c := c) v1 (fun _ => ⟨rfl, h⟩) (fun k jn s p q1 q2 q3 q4 _ => absurd ⟨k, jn, q1, q2, q3, q4⟩ hb)⟩) (fun k jn s p q1 q2 q3 q4 q5 => ⟨_, rfl, h.2.2.1.1, k_X10_walk h.2.2.1 (n := n) (T := T) (t := t) (c := c) v1 (fun hb => absurd ⟨k, jn, q1, q2, q3, q4⟩ hb) (fun k' jn' s' p' p1 p2 p3 p4 p5 => ?_)⟩)
    obtain rfl : k' = k := by omega
    obtain rfl : jn' = jn := by omega
    obtain rfl : s' = s := by have a := q5.2.2.1; have b : (I 666 (47 + 10 * t)).toInt = (s' : Int) := p5.2.2.1; omega
    obtain rfl : p' = p := by have a := q5.2.2.2.2.1; have b : (I 666 (48 + 10 * t + s')).toInt = (p' : Int) := p5.2.2.2.2.1; omega
    exact ⟨rfl, h⟩
  · exact k_X9_walk0 h.2.1 v2 ⟨_, rfl, h.2.2.1.1, k_X10_walk0 h.2.2.1 v1 ⟨rfl, h⟩⟩
theorem st_far (h : LW S I P) (fr tt : Int32) : ST E yX9_far yX10_far [.int fr, .int tt] S I P := by
  rcases h.webs with ⟨n, T, t, c, v1, v2, v3⟩ | ⟨v1, v2, v3⟩
  · refine k_X9_far h.2.1 v2 v1.1.1 v1.1.2.2 v1.2.2.2.2.1 (fun hb => ⟨_, rfl, h.2.2.1.1, k_X10_far h.2.2.1 (n := n) rfl v1.1.1 v1.1.2.2 v1.2.2.2.2.1 (fun _ => ⟨rfl, h⟩) (fun f q a q1 q2 q3 q4 => absurd ⟨f, q, q1, q2, q3, q4⟩ hb)⟩) (fun f q q1 q2 q3 q4 => ⟨_, rfl, h.2.2.1.1, k_X10_far h.2.2.1 (n := n) rfl v1.1.1 v1.1.2.2 v1.2.2.2.2.1 (fun hb => absurd ⟨f, q, q1, q2, q3, q4⟩ hb) (fun f' q' a p1 p2 p3 p4 => ?_)⟩)
    obtain rfl : f' = f := by omega
    obtain rfl : q' = q := by omega
    exact ⟨rfl, h.same (fun k hk => va_ne' (by unfold Kc at hk; omega))⟩
  · exact k_X9_far0 h.2.1 v2 ⟨_, rfl, h.2.2.1.1, k_X10_far0 h.2.2.1 v1.1 ⟨rfl, h⟩⟩
theorem st_round (h : LW S I P) (page : Int32) : ST E yX9_round yX10_round [.int page] S I P := by
  rcases h.webs with ⟨n, T, t, c, v1, v2, v3⟩ | ⟨v1, v2, v3⟩
  · refine k_X9_round h.2.1 v2 v1.1.1 v1.1.2.2 v1.2.2.2.2.1 (fun hb => ⟨_, rfl, h.2.2.1.1, k_X10_round h.2.2.1 (n := n) rfl v1.1.1 v1.1.2.2 v1.2.2.2.2.1 (fun _ => ⟨rfl, h⟩) (fun q a q1 q2 => absurd ⟨q, q1, q2⟩ hb)⟩) (fun q q1 q2 => ⟨_, rfl, h.2.2.1.1, k_X10_round h.2.2.1 (n := n) rfl v1.1.1 v1.1.2.2 v1.2.2.2.2.1 (fun hb => absurd ⟨q, q1, q2⟩ hb) (fun q' a p1 p2 => ?_)⟩)
    obtain rfl : q' = q := by omega
    exact ⟨rfl, h.same (fun k hk => va_ne' (by unfold Kc at hk; omega))⟩
  · exact k_X9_round0 h.2.1 v2 ⟨_, rfl, h.2.2.1.1, k_X10_round0 h.2.2.1 v1.1 ⟨rfl, h⟩⟩
theorem Nw.uniq {w : Nat → Int32} {t s p s' p' : Nat} (h : Nw w t s p) (h2 : Nw w t s' p') : s' = s ∧ p' = p := by
  have e : s' = s := by have a := h.2.2.1; have b := h2.2.2.1; omega
  subst e
  exact ⟨rfl, by have a := h.2.2.2.2.1; have b := h2.2.2.2.2.1; omega⟩
theorem st_ways (h : LW S I P) (page x : Int32) : ST E yX9_ways yX10_ways [.int page, .int x] S I P := by
  rcases h.webs with ⟨n, T, t, c, v1, v2, v3⟩ | ⟨v1, v2, v3⟩
  · refine k_X9_ways h.2.1 v3 v1 v2 (fun hb => ⟨_, rfl, h.2.2.1.1, k_X10_ways h.2.2.1 (n := n) (T := T) (t := t) (c := c) rfl v1 (fun _ => ⟨rfl, h⟩) (fun J q k s p _ q1 q2 q3 q4 _ => absurd ⟨q, k, q1, q2, q3, q4⟩ hb)⟩) (fun J q k s p f q1 q2 q3 q4 q5 => ⟨_, rfl, h.2.2.1.1, k_X10_ways h.2.2.1 (n := n) (T := T) (t := t) (c := c) (w := I 666) (f 666 (by omega) (by omega)) v1 (fun hb => absurd ⟨q, k, q1, q2, q3, q4⟩ hb) (fun J' q' k' s' p' f' p1 p2 p3 p4 p5 => ?_)⟩)
    obtain rfl : q' = q := by omega
    obtain rfl : k' = k := by omega
    obtain ⟨rfl, rfl⟩ := q5.uniq p5
    exact ⟨rfl, h.same (fun k hk => (f' k (by unfold Kc at hk; omega) (by unfold Kc at hk; omega)).trans (f k (by unfold Kc at hk; omega) (by unfold Kc at hk; omega)))⟩
  · exact k_X9_ways0 h.2.1 v2 ⟨_, rfl, h.2.2.1.1, k_X10_ways0 h.2.2.1 v1.1 ⟨rfl, h⟩⟩
theorem st_chance (h : LW S I P) (page x what : Int32) : ST E yX9_chance yX10_chance [.int page, .int x, .int what] S I P := by
  rcases h.webs with ⟨n, T, t, c, v1, v2, v3⟩ | ⟨v1, v2, v3⟩
  · by_cases hex : ∃ q k e : Nat, page.toInt = (q : Int) ∧ q < n ∧ x.toInt = (k : Int) ∧ k ≤ 8 ∧ what.toInt = (e : Int) ∧ e ≤ 1
    · refine k_X9_chance h.2.1 v3 v1 v2 (fun hb => absurd hex hb) (fun J q k s p f q1 q2 q3 q4 q5 => ⟨_, rfl, h.2.2.1.1, k_X10_chance h.2.2.1 (n := n) (T := T) (t := t) (c := c) (w := I 666) (f 666 (by omega) (by omega)) v1 (fun hb => absurd hex hb) (fun J' q' k' s' p' f' p1 p2 p3 p4 p5 => ?_)⟩)
      obtain rfl : q' = q := by omega
      obtain rfl : k' = k := by omega
      obtain ⟨rfl, rfl⟩ := q5.uniq p5
      exact ⟨rfl, h.same (fun k hk => (f' k (by unfold Kc at hk; omega) (by unfold Kc at hk; omega)).trans (f k (by unfold Kc at hk; omega) (by unfold Kc at hk; omega)))⟩
    · exact k_X9_chanceB h.2.1 v2 v1.1.1 v1.1.2.2 hex ⟨_, rfl, h.2.2.1.1, k_X10_chanceB h.2.2.1 (n := n) v1.1.1 v1.1.2.2 hex ⟨rfl, h⟩⟩
  · exact k_X9_chance0 h.2.1 v2 ⟨_, rfl, h.2.2.1.1, k_X10_chance0 h.2.2.1 v1.1 ⟨rfl, h⟩⟩
theorem st_to (h : LW S I P) (page k : Int32) : ST E yX9_to yX10_to [.int page, .int k] S I P := by
  rcases h.webs with ⟨n, T, t, c, v1, v2, v3⟩ | ⟨v1, v2, v3⟩
  · by_cases hex : ∃ q : Nat, page.toInt = (q : Int) ∧ q < n ∧ -1 ≤ k.toInt
    · have e4 : E4 (va_cpy (I 666) (I 668) 0 0 124) (I 666) := E4.cpy
      refine k_X9_to h.2.1 (v3.e4 v1 e4) (v1.e4 e4) (v2.e4 v1.2.2.2.2.1 v1.1.2.2 e4) (fun hb => absurd hex hb) (fun J pg f q1 q2 => ⟨_, rfl, h.2.2.1.1, k_X10_to h.2.2.1 (n := n) (T := T) (t := t) (c := c) (w := I 666) (f 666 (by omega) (by omega)) v1 (old := I 668) (fun i _ => by rw [show J (660 + 8) = I 668 from f 668 (by omega) (by omega)]) (fun hb => absurd hex hb) (fun J' pg' f' _ p1 p2 => ?_)⟩)
      obtain rfl : pg' = pg := by omega
      exact ⟨rfl, h.same (fun k hk => (f' k (by unfold Kc at hk; omega) (by unfold Kc at hk; omega)).trans (f k (by unfold Kc at hk; omega) (by unfold Kc at hk; omega)))⟩
    · exact k_X9_toB h.2.1 v2 v1.1.1 v1.1.2.2 hex ⟨_, rfl, h.2.2.1.1, k_X10_toB h.2.2.1 (n := n) v1.1.1 v1.1.2.2 hex ⟨rfl, h⟩⟩
  · exact k_X9_to0 h.2.1 v2 ⟨_, rfl, h.2.2.1.1, k_X10_to0 h.2.2.1 v1.1 ⟨rfl, h⟩⟩
theorem st_drawn (h : LW S I P) (nn seed what : Int32) : ST E yX9_drawn yX10_drawn [.int nn, .int seed, .int what] S I P := by
  rcases h.webs with ⟨n, T, t, c, v1, v2, v3⟩ | ⟨v1, v2, v3⟩
  · have hn2 := v1.1.2.1
    by_cases hex : ∃ k x e : Nat, nn.toInt = (k : Int) ∧ k ≤ 60 ∧ seed.toInt = (x : Int) ∧ 1 ≤ x ∧ x ≤ 999999 ∧ what.toInt = (e : Int) ∧ e ≤ 1
    · have e4 : E4 (va_cpy (I 666) (I 668) 0 0 124) (I 666) := E4.cpy
      refine k_X9_drawn h.2.1 (v3.e4 v1 e4) (v1.e4 e4) (v2.e4 v1.2.2.2.2.1 v1.1.2.2 e4) (fun hb => absurd hex hb) (fun J Q k x q1 q2 f fp xg => ?_)
      have hM : MG S Q 660 := h.2.2.1.fr (fp 660 (by omega) (by omega))
      refine ⟨_, rfl, h.2.2.1.1, k_X10_drawn hM (n := n) (T := T) (t := t) (c := c) (w := I 666) (f 666 (by omega)) v1 (old := I 668) (fun i _ => by rw [show J (660 + 8) = I 668 from f 668 (by omega)]) (fun hb => absurd hex hb) (fun J' k' x' p1 p2 f' _ => ?_)⟩
      obtain rfl : k' = k := by omega
      obtain rfl : x' = x := by omega
      exact ⟨rfl, h.1, xg, hM, h.2.2.2.same h.2.1 (fun k hk => (f' k (by unfold Kc at hk; omega)).trans (f k (by unfold Kc at hk; omega))) (fun k hk => fp k (by omega) (by omega))⟩
    · exact k_X9_drawnB h.2.1 v2 v1.1.1 v1.1.2.2 (by omega) hex ⟨_, rfl, h.2.2.1.1, k_X10_drawnB h.2.2.1 (n := n) v1.1.1 v1.1.2.2 (by omega) hex ⟨rfl, h⟩⟩
  · exact k_X9_drawn0 h.2.1 v2 ⟨_, rfl, h.2.2.1.1, k_X10_drawn0 h.2.2.1 v1.1 ⟨rfl, h⟩⟩
theorem st_share (h : LW S I P) (page x : Int32) : ST E yX9_share yX10_share [.int page, .int x] S I P := by
  rcases h.webs with ⟨n, T, t, c, v1, v2, v3⟩ | ⟨v1, v2, v3⟩
  · have h8 := v1.2.2.2.2.2.2.2
    have hn : (I 27 2).toInt = (n : Int) := by rw [v2.1]; exact v1.1.1
    refine k_X9_share h.2.1 v3.2.2.2.2.2 h8 v1.1.2.2 hn (fun hb => ⟨_, rfl, h.2.2.1.1, k_X10_share h.2.2.1 (n := n) h8 v1.1.2.2 v1.1.1 (fun _ => ⟨rfl, h⟩) (fun q k q1 q2 q3 q4 _ => absurd ⟨q, k, q1, q2, q3, q4⟩ hb) (fun q k q1 q2 q3 q4 _ => absurd ⟨q, k, q1, q2, q3, q4⟩ hb)⟩) (fun q k q1 q2 q3 q4 q5 => ⟨_, rfl, h.2.2.1.1, k_X10_share h.2.2.1 (n := n) h8 v1.1.2.2 v1.1.1 (fun hb => absurd ⟨q, k, q1, q2, q3, q4⟩ hb) (fun q' k' p1 p2 p3 p4 p5 => ⟨rfl, h⟩) (fun q' k' p1 p2 p3 p4 p5 => ?_)⟩) (fun q k q1 q2 q3 q4 q5 => ⟨_, rfl, h.2.2.1.1, k_X10_share h.2.2.1 (n := n) h8 v1.1.2.2 v1.1.1 (fun hb => absurd ⟨q, k, q1, q2, q3, q4⟩ hb) (fun q' k' p1 p2 p3 p4 p5 => ?_) (fun q' k' p1 p2 p3 p4 p5 => ?_)⟩)
    · obtain rfl : q' = q := by omega
      exact absurd q5 p5
    · obtain rfl : q' = q := by omega
      exact absurd p5 q5
    · obtain rfl : q' = q := by omega
      exact ⟨rfl, h⟩
  · exact k_X9_share0 h.2.1 v2 ⟨_, rfl, h.2.2.1.1, k_X10_share0 h.2.2.1 v1.1 ⟨rfl, h⟩⟩
theorem st_trace (h : LW S I P) (i : Int32) : ST E yX9_trace yX10_trace [.int i] S I P := by
  obtain ⟨l, hl, t1, t2⟩ := h.2.2.2.2.2.2.2.2
  refine k_X9_trace h.2.1 t1 hl (fun j v q1 q2 => ⟨_, rfl, h.2.2.1.1, k_X10_trace h.2.2.1 t2 hl (fun j' v' p1 p2 => ?_) (fun hno => absurd ⟨j, q1, (List.getElem?_eq_some_iff.mp q2).1⟩ hno)⟩) (fun hno => ⟨_, rfl, h.2.2.1.1, k_X10_trace h.2.2.1 t2 hl (fun j v p1 p2 => absurd ⟨j, p1, (List.getElem?_eq_some_iff.mp p2).1⟩ hno) (fun _ => ⟨rfl, h⟩)⟩)
  obtain rfl : j' = j := by omega
  cases q2.symm.trans p2
  exact ⟨rfl, h⟩
theorem LW.asked {I1 I2 : pmI} {l : List Int32} (h : LW S I P) (f1 : ∀ k, k ≠ 594 → k ≠ 595 → I1 k = I k) (f2 : FrB I1 I2 660) (t1 : Tr (I1 594 1) (I1 595) l) (t2 : Tr (I2 660 24) (I2 (660 + 15)) l) (hl : l.length ≤ 16) : LW S I2 P := by
  obtain ⟨hs, hX, hM, h1, h2, h3, h4, h5, h6⟩ := h
  have F : ∀ k, k ≠ 594 → k ≠ 595 → k ≠ 660 → k ≠ 675 → I2 k = I k := fun k q1 q2 q3 q4 => (f2.1 k q3 q4).trans (f1 k q1 q2)
  have F6 : ∀ j, j ≠ 24 → I2 660 j = I 660 j := fun j hj => (f2.2 j hj).trans (by rw [f1 660 (by omega) (by omega)])
  refine ⟨hs, hX, hM, by rw [F 0 (by omega) (by omega) (by omega) (by omega), F6 4 (by omega)]; exact h1, h2.fr (fun k q1 q2 => F k (by omega) (by omega) (by omega) (by omega)) (F _ (by omega) (by omega) (by omega) (by omega)) (F _ (by omega) (by omega) (by omega) (by omega)) (F _ (by omega) (by omega) (by omega) (by omega)), h3.fr (by rw [F 2 (by omega) (by omega) (by omega) (by omega)]) (by rw [F 2 (by omega) (by omega) (by omega) (by omega)]) (F _ (by omega) (by omega) (by omega) (by omega)) (F6 _ (by omega)) (F6 _ (by omega)) (F _ (by omega) (by omega) (by omega) (by omega)), h4.fr hX (by rw [F 50 (by omega) (by omega) (by omega) (by omega)]) (by rw [F 50 (by omega) (by omega) (by omega) (by omega)]) (F6 _ (by omega)) (F _ (by omega) (by omega) (by omega) (by omega)) (F _ (by omega) (by omega) (by omega) (by omega)) (fun k q1 q2 => F k (by omega) (by omega) (by omega) (by omega)) (fun k q1 q2 => F k (by omega) (by omega) (by omega) (by omega)) (fun _ _ _ => rfl) (fun _ _ _ => rfl), h5.fr hX (F _ (by omega) (by omega) (by omega) (by omega)) (F _ (by omega) (by omega) (by omega) (by omega)) (fun k q1 q2 => F k (by omega) (by omega) (by omega) (by omega)) (fun _ _ _ => rfl), l, hl, ?_, t2⟩
  rw [f2.1 594 (by omega) (by omega), f2.1 595 (by omega) (by omega)]
  exact t1
theorem askS_16 (kd : Nat) (a b c : Int32) : (askS kd a b c).1.length ≤ 16 := by
  unfold askS
  split <;> simp
theorem askM_16 (kd : Nat) (a b c : Int32) : (askM kd a b c).1.length ≤ 16 := by
  unfold askM
  split <;> simp
theorem st_ask (h : LW S I P) (tab what : Int32) : ST E yX9_ask yX10_ask [.int tab, .int what] S I P := by
  obtain ⟨n, T, c, hD, hT, hT5, hTV⟩ := h.tabs
  have hsn := fun i hi => (hTV i hi).sn
  refine k_X9_ask h.2.1 hD hT hT5 hsn (fun hb => ⟨_, rfl, h.2.2.1.1, k_X10_ask h.2.2.1 (T := T) hT hT5 hsn (fun _ => ⟨rfl, h⟩) (fun i kd s q1 q2 q3 _ _ => absurd ⟨i, 0, q1, q2, by rw [q3]; rfl, by omega⟩ hb) (fun i kd s q1 q2 q3 _ _ => absurd ⟨i, 1, q1, q2, by rw [q3]; rfl, by omega⟩ hb)⟩) (fun i kd s q1 q2 q3 q4 q5 J f1 t1 => ?_) (fun i kd s q1 q2 q3 q4 q5 J f1 t1 => ?_)
  · have e6 : J (660 + 6) = I 666 := f1 666 (by omega) (by omega)
    refine ⟨_, rfl, h.2.2.1.1, k_X10_ask h.2.2.1 (T := T) (by rw [e6]; exact hT) hT5 (by rw [e6]; exact hsn) (fun hb => absurd ⟨i, 0, q1, q2, by rw [q3]; rfl, by omega⟩ hb) (fun i' kd' s' p1 p2 p3 p4 p5 J' f2 t2 => ?_) (fun i' kd' s' p1 p2 p3 p4 p5 J' f2 t2 => absurd (q3.symm.trans p3) (by decide))⟩
    rw [e6] at p4 p5 t2 ⊢
    obtain rfl : i' = i := by omega
    obtain rfl : kd' = kd := by omega
    obtain rfl : s' = s := by omega
    exact ⟨rfl, h.asked f1 f2 t1 t2 (askS_16 _ _ _ _)⟩
  · have e6 : J (660 + 6) = I 666 := f1 666 (by omega) (by omega)
    refine ⟨_, rfl, h.2.2.1.1, k_X10_ask h.2.2.1 (T := T) (by rw [e6]; exact hT) hT5 (by rw [e6]; exact hsn) (fun hb => absurd ⟨i, 1, q1, q2, by rw [q3]; rfl, by omega⟩ hb) (fun i' kd' s' p1 p2 p3 p4 p5 J' f2 t2 => absurd (q3.symm.trans p3) (by decide)) (fun i' kd' s' p1 p2 p3 p4 p5 J' f2 t2 => ?_)⟩
    rw [e6] at p4 p5 t2 ⊢
    obtain rfl : i' = i := by omega
    obtain rfl : kd' = kd := by omega
    obtain rfl : s' = s := by omega
    exact ⟨rfl, h.asked f1 f2 t1 t2 (askM_16 _ _ _ _)⟩
theorem LR.miss (h : LR I) {k : Nat} (hk : k < 8) : I (596 + 2 * k) 1 = 0 ↔ I 661 k = -1000000 := by
  rcases (h k hk).1 with ⟨a, b⟩ | ⟨a, b, c, _⟩
  · exact ⟨fun _ => b, fun _ => a⟩
  · exact ⟨fun z => absurd (a.symm.trans z) (by decide), fun z => absurd z c⟩
theorem LR.is (h : LR I) {k : Nat} (hk : k < 8) : I (596 + 2 * k) 1 = 1 ↔ ¬ I 661 k = -1000000 := by
  rcases (h k hk).1 with ⟨a, b⟩ | ⟨a, b, c, _⟩
  · exact ⟨fun z => absurd (a.symm.trans z) (by decide), fun z => absurd b z⟩
  · exact ⟨fun _ => c, fun _ => a⟩
theorem LR.th (h : LR I) : ∀ k, k < 8 → I (596 + 2 * k) 1 = 0 ∨ I (596 + 2 * k) 1 = 1 := fun k hk => (h k hk).1.imp (fun z => z.1) (fun z => z.1)
theorem LR.sz (h : LR I) : ∀ k, k < 8 → ∃ z : Nat, (I (596 + 2 * k) 3).toInt = (z : Int) ∧ z ≤ 40 := fun k hk => by
  obtain ⟨_, e, z, z1, z2⟩ := h k hk
  exact ⟨z, by rw [← e]; exact z1, z2⟩
theorem LR.sz2 (h : LR I) : ∀ k, k < 8 → ∃ z : Nat, (I 662 k).toInt = (z : Int) ∧ z ≤ 40 := fun k hk => (h k hk).2.2
theorem st_count (h : LW S I P) (what : Int32) : ST E yX9_count yX10_count [.int what] S I P := by
  have hR := h.2.2.2.2.1
  have key : ∃ (n : Nat) (pg : Int32), (I 666 0).toInt = (n : Int) ∧ n ≤ 8 ∧ I 27 2 = I 666 0 ∧ I 30 3 = I 666 1 ∧ I 30 4 = I 666 2 ∧ I 30 5 = I 666 3 ∧ (∀ p, p < 8 → I 33 p = I 666 (8 + 5 * p)) ∧ sumV (I 666) 8 = sumV (I 666) n ∧ ((0 < n ∧ ∃ t s p, Nw (I 666) t s p ∧ pg = I 666 (48 + 10 * t + s)) ∨ (¬ 0 < n ∧ pg = 0)) ∧ ∀ R' : Option Value → pmS → pmI → pmP → Prop, R' (some (.int pg)) S I P → pmX E (1998 + 1) 0 0 yX1_shownPage [rr E 30] S I P R' := by
    rcases h.webs with ⟨n, T, t, c, v1, v2, v3⟩ | ⟨v1, v2, v3⟩
    · obtain ⟨s, p, hN, hp⟩ := v1.nw
      have hn2 := v1.1.2.1
      exact ⟨n, I 666 (48 + 10 * t + s), v1.1.1, v1.1.2.2, v2.1, v3.1, v3.2.1, v3.2.2.1, v3.2.2.2.2.2, sumV_8 v1.2.2.2.2.2.2.2 8 v1.1.2.2 (Nat.le_refl _), Or.inl ⟨by omega, t, s, p, hN, rfl⟩, fun R' hR' => k_X1_shownPage h.2.1.dk v3 v1 hN hR'⟩
    · have hVV : VV (I 666) 0 := fun p hp => ⟨0, by rw [v1.2.2.2.2 p hp]; rfl, by omega, fun _ => rfl⟩
      exact ⟨0, 0, by rw [v1.1]; rfl, by omega, by rw [v2, v1.1], v3.1, v3.2.1, v3.2.2.1, v3.2.2.2.2.2, sumV_8 hVV 8 (by omega) (Nat.le_refl _), Or.inr ⟨by omega, rfl⟩, fun R' hR' => k_X1_shownPage0 h.2.1 v3 v1 hR'⟩
  obtain ⟨n, pg, k1, k2, k3, k4, k5, k6, k7, k8, k9, k10⟩ := key
  have ne : ∀ {a b : Int32}, what = a → what = b → ¬ a = b → False := fun p q r => r (p.symm.trans q)
  have no : ∀ {a : Int32}, what = a → (what.toInt < 0 ∨ 8 < what.toInt) → 0 ≤ a.toInt → a.toInt ≤ 8 → False := fun p q r s => by rw [p] at q; omega
  have B : ∀ x : Int32, (what = 0 → cntR (fun k => ¬ I (660 + 1) k = -1000000) 8 = x) → (what = 1 → I 666 0 = x) → (what = 2 → I 666 1 = x) → (what = 3 → I 666 2 = x) → (what = 4 → pg = x) → (what = 5 → I 666 3 = x) → (what = 6 → sumV (I 666) n = x) → (what = 7 → I 660 17 = x) → (what = 8 → I 660 6 = x) → ((what.toInt < 0 ∨ 8 < what.toInt) → -1000001 = x) → pmX E 2000 0 0 yX10_count [rr E 660, .int what] S I P (fun v2 S2 I2 P2 => v2 = some (.int x) ∧ LW S2 I2 P2) := by
    intro x c0 c1 c2 c3 c4 c5 c6 c7 c8 c9
    exact k_X10_count h.2.2.1 (n := n) k1 k2 k9 (fun z => ⟨by rw [c0 z], h⟩) (fun z => ⟨by rw [← c1 z], h⟩) (fun z => ⟨by rw [← c2 z], h⟩) (fun z => ⟨by rw [← c3 z], h⟩) (fun z => ⟨by rw [← c4 z], h⟩) (fun z => ⟨by rw [← c5 z], h⟩) (fun z => ⟨by rw [← c6 z], h⟩) (fun z => ⟨by rw [← c7 z], h⟩) (fun z => ⟨by rw [← c8 z], h⟩) (fun z => ⟨by rw [← c9 z], h⟩)
  have X : ∀ {a b : Int32} {C : Prop}, what = a → ¬ a = b → (what = b → C) := fun p r q => (ne p q r).elim
  have Y : ∀ {a : Int32} {C : Prop}, what = a → 0 ≤ a.toInt → a.toInt ≤ 8 → ((what.toInt < 0 ∨ 8 < what.toInt) → C) := fun p r s q => (no p q r s).elim
  have Z : ∀ {a : Int32} {C : Prop}, (what.toInt < 0 ∨ 8 < what.toInt) → 0 ≤ a.toInt → a.toInt ≤ 8 → (what = a → C) := fun q r s p => (no p q r s).elim
  refine k_X9_count h.2.1 k7 k10 (fun z => ⟨_, rfl, h.2.2.1.1, B _ (fun _ => (cntR_congr 8 (fun j hj => ⟨fun y w => y ((hR.miss hj).mpr w), fun y w => y ((hR.miss hj).mp w)⟩)).symm) (X z (by decide)) (X z (by decide)) (X z (by decide)) (X z (by decide)) (X z (by decide)) (X z (by decide)) (X z (by decide)) (X z (by decide)) (Y z (by decide) (by decide))⟩)
    (fun z => ⟨_, rfl, h.2.2.1.1, B _ (X z (by decide)) (fun _ => k3.symm) (X z (by decide)) (X z (by decide)) (X z (by decide)) (X z (by decide)) (X z (by decide)) (X z (by decide)) (X z (by decide)) (Y z (by decide) (by decide))⟩)
    (fun z => ⟨_, rfl, h.2.2.1.1, B _ (X z (by decide)) (X z (by decide)) (fun _ => k4.symm) (X z (by decide)) (X z (by decide)) (X z (by decide)) (X z (by decide)) (X z (by decide)) (X z (by decide)) (Y z (by decide) (by decide))⟩)
    (fun z => ⟨_, rfl, h.2.2.1.1, B _ (X z (by decide)) (X z (by decide)) (X z (by decide)) (fun _ => k5.symm) (X z (by decide)) (X z (by decide)) (X z (by decide)) (X z (by decide)) (X z (by decide)) (Y z (by decide) (by decide))⟩)
    (fun z => ⟨_, rfl, h.2.2.1.1, B _ (X z (by decide)) (X z (by decide)) (X z (by decide)) (X z (by decide)) (fun _ => rfl) (X z (by decide)) (X z (by decide)) (X z (by decide)) (X z (by decide)) (Y z (by decide) (by decide))⟩)
    (fun z => ⟨_, rfl, h.2.2.1.1, B _ (X z (by decide)) (X z (by decide)) (X z (by decide)) (X z (by decide)) (X z (by decide)) (fun _ => k6.symm) (X z (by decide)) (X z (by decide)) (X z (by decide)) (Y z (by decide) (by decide))⟩)
    (fun z => ⟨_, rfl, h.2.2.1.1, B _ (X z (by decide)) (X z (by decide)) (X z (by decide)) (X z (by decide)) (X z (by decide)) (X z (by decide)) (fun _ => k8.symm) (X z (by decide)) (X z (by decide)) (Y z (by decide) (by decide))⟩)
    (fun z => ⟨_, rfl, h.2.2.1.1, B _ (X z (by decide)) (X z (by decide)) (X z (by decide)) (X z (by decide)) (X z (by decide)) (X z (by decide)) (X z (by decide)) (fun _ => h.2.2.2.2.2.2.1.1.symm) (X z (by decide)) (Y z (by decide) (by decide))⟩)
    (fun z => ⟨_, rfl, h.2.2.1.1, B _ (X z (by decide)) (X z (by decide)) (X z (by decide)) (X z (by decide)) (X z (by decide)) (X z (by decide)) (X z (by decide)) (X z (by decide)) (fun _ => h.2.2.2.2.2.1.1.symm) (Y z (by decide) (by decide))⟩)
    (fun z => ⟨_, rfl, h.2.2.1.1, B _ (Z z (by decide) (by decide)) (Z z (by decide) (by decide)) (Z z (by decide) (by decide)) (Z z (by decide) (by decide)) (Z z (by decide) (by decide)) (Z z (by decide) (by decide)) (Z z (by decide) (by decide)) (Z z (by decide) (by decide)) (Z z (by decide) (by decide)) (fun _ => rfl)⟩)
end STEPS
