/-! the law's loop, and its start -/
set_option maxHeartbeats 1000000 in
set_option maxRecDepth 20000 in
theorem law_body {E : pmE} {C : pmC} (G : pm_G E C RL code 4 2001 600000 7302250) {b L : Nat} {xs : Nat → Int32} (hX : va_X b L xs C.s C.s.heap) (hbl : b < C.s.heap.size) (hE : E.2.1 = C.s.heap.size) {i : Nat} {u : Int32} (hu : u.toInt = (i : Int)) (hi : i + 6 ≤ L) (hL : L ≤ 3072) {S : pmS} {I : pmI} {P : pmP} (h : LW S I P) (x : Int32) (next : ∀ S I P, LW S I P → pmZ E C 1173 [some (.ref b), some (rr E 0), some (rr E 660), some (.int u)] [] S I P 676 8217) : pmZ E C 33 [some (.ref b), some (rr E 0), some (rr E 660), some (.int u)] [.int x] S I P 676 8217 := by
  have hsw : (x.toInt < 0 ∨ 34 < x.toInt) ∨ x = 0 ∨ x = 1 ∨ x = 2 ∨ x = 3 ∨ x = 4 ∨ x = 5 ∨ x = 6 ∨ x = 7 ∨ x = 8 ∨ x = 9 ∨ x = 10 ∨ x = 11 ∨ x = 12 ∨ x = 13 ∨ x = 14 ∨ x = 15 ∨ x = 16 ∨ x = 17 ∨ x = 18 ∨ x = 19 ∨ x = 20 ∨ x = 21 ∨ x = 22 ∨ x = 23 ∨ x = 24 ∨ x = 25 ∨ x = 26 ∨ x = 27 ∨ x = 28 ∨ x = 29 ∨ x = 30 ∨ x = 31 ∨ x = 32 ∨ x = 33 ∨ x = 34 := by simp only [ti_eq, Int32.reduceToInt]; omega
  rcases hsw with e | e | e | e | e | e | e | e | e | e | e | e | e | e | e | e | e | e | e | e | e | e | e | e | e | e | e | e | e | e | e | e | e | e | e | e
  · exact z_tout G 1173 dL_law_33 e (by decide) (next S I P h)
  · exact z_tin G 188 dL_law_33 (by rw [e]; decide) (by rw [e]; decide) (by rw [e]; rfl) (by decide) (law_c0 G hX hbl hE hu hi hL h next)
  · exact z_tin G 231 dL_law_33 (by rw [e]; decide) (by rw [e]; decide) (by rw [e]; rfl) (by decide) (law_c1 G hX hbl hE hu hi hL h next)
  · exact z_tin G 274 dL_law_33 (by rw [e]; decide) (by rw [e]; decide) (by rw [e]; rfl) (by decide) (law_c2 G hX hbl hE hu hi hL h next)
  · exact z_tin G 337 dL_law_33 (by rw [e]; decide) (by rw [e]; decide) (by rw [e]; rfl) (by decide) (law_c3 G hX hbl hE hu hi hL h next)
  · exact z_tin G 360 dL_law_33 (by rw [e]; decide) (by rw [e]; decide) (by rw [e]; rfl) (by decide) (law_c4 G hX hbl hE hu hi hL h next)
  · exact z_tin G 383 dL_law_33 (by rw [e]; decide) (by rw [e]; decide) (by rw [e]; rfl) (by decide) (law_c5 G hX hbl hE hu hi hL h next)
  · exact z_tin G 396 dL_law_33 (by rw [e]; decide) (by rw [e]; decide) (by rw [e]; rfl) (by decide) (law_c6 G hX hbl hE hu hi hL h next)
  · exact z_tin G 409 dL_law_33 (by rw [e]; decide) (by rw [e]; decide) (by rw [e]; rfl) (by decide) (law_c7 G hX hbl hE hu hi hL h next)
  · exact z_tin G 432 dL_law_33 (by rw [e]; decide) (by rw [e]; decide) (by rw [e]; rfl) (by decide) (law_c8 G hX hbl hE hu hi hL h next)
  · exact z_tin G 445 dL_law_33 (by rw [e]; decide) (by rw [e]; decide) (by rw [e]; rfl) (by decide) (law_c9 G hX hbl hE hu hi hL h next)
  · exact z_tin G 458 dL_law_33 (by rw [e]; decide) (by rw [e]; decide) (by rw [e]; rfl) (by decide) (law_c10 G hX hbl hE hu hi hL h next)
  · exact z_tin G 481 dL_law_33 (by rw [e]; decide) (by rw [e]; decide) (by rw [e]; rfl) (by decide) (law_c11 G hX hbl hE hu hi hL h next)
  · exact z_tin G 504 dL_law_33 (by rw [e]; decide) (by rw [e]; decide) (by rw [e]; rfl) (by decide) (law_c12 G hX hbl hE hu hi hL h next)
  · exact z_tin G 517 dL_law_33 (by rw [e]; decide) (by rw [e]; decide) (by rw [e]; rfl) (by decide) (law_c13 G hX hbl hE hu hi hL h next)
  · exact z_tin G 530 dL_law_33 (by rw [e]; decide) (by rw [e]; decide) (by rw [e]; rfl) (by decide) (law_c14 G hX hbl hE hu hi hL h next)
  · exact z_tin G 543 dL_law_33 (by rw [e]; decide) (by rw [e]; decide) (by rw [e]; rfl) (by decide) (law_c15 G hX hbl hE hu hi hL h next)
  · exact z_tin G 576 dL_law_33 (by rw [e]; decide) (by rw [e]; decide) (by rw [e]; rfl) (by decide) (law_c16 G hX hbl hE hu hi hL h next)
  · exact z_tin G 609 dL_law_33 (by rw [e]; decide) (by rw [e]; decide) (by rw [e]; rfl) (by decide) (law_c17 G hX hbl hE hu hi hL h next)
  · exact z_tin G 642 dL_law_33 (by rw [e]; decide) (by rw [e]; decide) (by rw [e]; rfl) (by decide) (law_c18 G hX hbl hE hu hi hL h next)
  · exact z_tin G 675 dL_law_33 (by rw [e]; decide) (by rw [e]; decide) (by rw [e]; rfl) (by decide) (law_c19 G hX hbl hE hu hi hL h next)
  · exact z_tin G 708 dL_law_33 (by rw [e]; decide) (by rw [e]; decide) (by rw [e]; rfl) (by decide) (law_c20 G hX hbl hE hu hi hL h next)
  · exact z_tin G 731 dL_law_33 (by rw [e]; decide) (by rw [e]; decide) (by rw [e]; rfl) (by decide) (law_c21 G hX hbl hE hu hi hL h next)
  · exact z_tin G 764 dL_law_33 (by rw [e]; decide) (by rw [e]; decide) (by rw [e]; rfl) (by decide) (law_c22 G hX hbl hE hu hi hL h next)
  · exact z_tin G 797 dL_law_33 (by rw [e]; decide) (by rw [e]; decide) (by rw [e]; rfl) (by decide) (law_c23 G hX hbl hE hu hi hL h next)
  · exact z_tin G 830 dL_law_33 (by rw [e]; decide) (by rw [e]; decide) (by rw [e]; rfl) (by decide) (law_c24 G hX hbl hE hu hi hL h next)
  · exact z_tin G 893 dL_law_33 (by rw [e]; decide) (by rw [e]; decide) (by rw [e]; rfl) (by decide) (law_c25 G hX hbl hE hu hi hL h next)
  · exact z_tin G 936 dL_law_33 (by rw [e]; decide) (by rw [e]; decide) (by rw [e]; rfl) (by decide) (law_c26 G hX hbl hE hu hi hL h next)
  · exact z_tin G 979 dL_law_33 (by rw [e]; decide) (by rw [e]; decide) (by rw [e]; rfl) (by decide) (law_c27 G hX hbl hE hu hi hL h next)
  · exact z_tin G 1002 dL_law_33 (by rw [e]; decide) (by rw [e]; decide) (by rw [e]; rfl) (by decide) (law_c28 G hX hbl hE hu hi hL h next)
  · exact z_tin G 1025 dL_law_33 (by rw [e]; decide) (by rw [e]; decide) (by rw [e]; rfl) (by decide) (law_c29 G hX hbl hE hu hi hL h next)
  · exact z_tin G 1048 dL_law_33 (by rw [e]; decide) (by rw [e]; decide) (by rw [e]; rfl) (by decide) (law_c30 G hX hbl hE hu hi hL h next)
  · exact z_tin G 1081 dL_law_33 (by rw [e]; decide) (by rw [e]; decide) (by rw [e]; rfl) (by decide) (law_c31 G hX hbl hE hu hi hL h next)
  · exact z_tin G 1114 dL_law_33 (by rw [e]; decide) (by rw [e]; decide) (by rw [e]; rfl) (by decide) (law_c32 G hX hbl hE hu hi hL h next)
  · exact z_tin G 1137 dL_law_33 (by rw [e]; decide) (by rw [e]; decide) (by rw [e]; rfl) (by decide) (law_c33 G hX hbl hE hu hi hL h next)
  · exact z_tin G 1160 dL_law_33 (by rw [e]; decide) (by rw [e]; decide) (by rw [e]; rfl) (by decide) (law_c34 G hX hbl hE hu hi hL h next)
set_option maxHeartbeats 1000000 in
set_option maxRecDepth 20000 in
theorem law_loop {E : pmE} {C : pmC} (G : pm_G E C RL code 4 2001 600000 7302250) {b L : Nat} {xs : Nat → Int32} (hX : va_X b L xs C.s C.s.heap) (hbl : b < C.s.heap.size) (hE : E.2.1 = C.s.heap.size) (hL : L ≤ 3072) (fin : ∀ (u : Int32) (S : pmS) (I : pmI) (P : pmP), pmZ E C 1179 [some (.ref b), some (rr E 0), some (rr E 660), some (.int u)] [] S I P 676 8217) : ∀ (r i : Nat) (u : Int32) (S : pmS) (I : pmI) (P : pmP), u.toInt = (i : Int) → i ≤ 4000 → L ≤ i + r → LW S I P → pmZ E C 18 [some (.ref b), some (rr E 0), some (rr E 660), some (.int u)] [] S I P 676 8217 := by
  have hcmp : (iN L - 6).toInt = (L : Int) - 6 := by
    rw [ti_sub, iN_ti (by omega)]
    simp only [Int32.reduceToInt]
    omega
  intro r
  induction r with
  | zero =>
    intro i u S I P hu hi4 hr h
    refine z_iload_n G dL_law_18 rfl ?_
    refine z_aload_x G dL_law_19 rfl ?_
    refine z_slen G hX hbl hE dL_law_20 ?_
    refine z_bipush G (v := 6) dL_law_21 (by decide) ?_
    refine z_isub G dL_law_23 ?_
    refine z_icmp_gt G 1179 dL_law_24 (by decide) (fun _ => fin u S I P) (fun c => ?_)
    rw [ti_lt, hcmp] at c
    omega
  | succ r ih =>
    intro i u S I P hu hi4 hr h
    refine z_iload_n G dL_law_18 rfl ?_
    refine z_aload_x G dL_law_19 rfl ?_
    refine z_slen G hX hbl hE dL_law_20 ?_
    refine z_bipush G (v := 6) dL_law_21 (by decide) ?_
    refine z_isub G dL_law_23 ?_
    refine z_icmp_gt G 1179 dL_law_24 (by decide) (fun _ => fin u S I P) (fun c => ?_)
    rw [ti_lt, hcmp] at c
    refine z_aload_x G dL_law_27 rfl ?_
    refine z_iload_n G dL_law_28 rfl ?_
    refine z_sld G hX hbl hE i dL_law_29 hu (by omega) ?_
    refine z_bipush G (v := 63) dL_law_30 (by decide) ?_
    refine z_iand G dL_law_32 ?_
    refine law_body G hX hbl hE hu (by omega) hL h _ (fun S2 I2 P2 h2 => ?_)
    refine z_iinc G (v := 6) dL_law_1173 (by decide) rfl rfl ?_
    refine z_goto G 18 dL_law_1176 (by decide) ?_
    exact ih (i + 6) (u + 6) S2 I2 P2 (by simp (disch := omega) only [iN_lit, iN_add, iN_sub, iN_mul, iN_an, iN_of hu]; exact iN_ti2 (by omega) (by omega)) (by omega) (by omega) h2
theorem XG.so {S S1 : pmS} {I I1 : pmI} {P P1 : pmP} (f : XG S P) (h : SO S S1 I I1 P P1 0 660) : XG S1 P1 := by
  obtain ⟨⟨a0, a1, a2, a3, a4, a5, a6, a7, a8⟩, ⟨b1, b2⟩, ⟨c1, c2, c3, c4, c5, c6, c7⟩, w, dd, ⟨h1, h2, h3, h4⟩, ⟨i1, i2⟩, ⟨f1, ⟨f2, f3, f4, f5, f6, f7, f8, f9⟩, f10, f11, f12, f13, f14, f15, f16, f17, f18⟩, ⟨g1, g2, g3⟩⟩ := f
  refine ⟨⟨h.ob a0 (by omega) (by omega), h.pf a1 (by omega) (by omega), h.pf a2 (by omega) (by omega), h.pf a3 (by omega) (by omega), h.pf a4 (by omega) (by omega), h.pf a5 (by omega) (by omega), h.pf a6 (by omega) (by omega), h.pf a7 (by omega) (by omega), h.pf a8 (by omega) (by omega)⟩, ⟨h.ar b1 (by omega) (by omega), fun r hr => ?_⟩, ⟨h.ob c1 (by omega) (by omega), h.pf c2 (by omega) (by omega), h.pf c3 (by omega) (by omega), h.pf c4 (by omega) (by omega), h.ar c5 (by omega) (by omega), c6.so (h.sub (by omega) (by omega)), c7.so (h.sub (by omega) (by omega))⟩, w.so (h.sub (by omega) (by omega)), dd.so (h.sub (by omega) (by omega)), ⟨h.ob h1 (by omega) (by omega), h.pf h2 (by omega) (by omega), h.ar h3 (by omega) (by omega), fun i hi => ⟨h.pf (h4 i hi).1 (by omega) (by omega), (h4 i hi).2.so (h.sub (by omega) (by omega))⟩⟩, ⟨h.ar i1 (by omega) (by omega), fun k hk => ?_⟩, ⟨h.ob f1 (by omega) (by omega), ⟨h.pf f2 (by omega) (by omega), h.pf f3 (by omega) (by omega), h.pf f4 (by omega) (by omega), h.pf f5 (by omega) (by omega), h.pf f6 (by omega) (by omega), h.pf f7 (by omega) (by omega), h.pf f8 (by omega) (by omega), h.pf f9 (by omega) (by omega)⟩, h.ar f10 (by omega) (by omega), h.ar f11 (by omega) (by omega), f12.so (h.sub (by omega) (by omega)), h.ar f13 (by omega) (by omega), h.ar f14 (by omega) (by omega), f15.so (h.sub (by omega) (by omega)), f16.so (h.sub (by omega) (by omega)), h.ar f17 (by omega) (by omega), fun i hi => ⟨h.pf (f18 i hi).1 (by omega) (by omega), (f18 i hi).2.so (h.sub (by omega) (by omega))⟩⟩, ⟨h.ob g1 (by omega) (by omega), h.pf g2 (by omega) (by omega), h.ar g3 (by omega) (by omega)⟩⟩
  · obtain ⟨y1, y2, y3, y4⟩ := b2 r hr
    exact ⟨h.pf y1 (by omega) (by omega), h.ob y2 (by omega) (by omega), h.pf y3 (by omega) (by omega), h.ar y4 (by omega) (by omega)⟩
  · obtain ⟨y1, y2, y3, y4, y5, y6⟩ := i2 k hk
    exact ⟨h.pf y1 (by omega) (by omega), h.ob y2 (by omega) (by omega), h.pf y3 (by omega) (by omega), h.pf y4 (by omega) (by omega), y5.so (h.sub (by omega) (by omega)), y6.so (h.sub (by omega) (by omega))⟩
/-- both objects, new -/
theorem LW.first {S : pmS} {I : pmI} {P : pmP} (hs : S.1 = 676) (hX : XG S P) (hM : MG S P 660) (z : X0z I) (m0 : ∀ j, I 660 j = 0) (m1 : ∀ k, k < 8 → I 661 k = -1000000) (m2 : ∀ j, I 662 j = 0) (m6 : ∀ j, I 666 j = 0) (m11 : ∀ j, I 671 j = 0) : LW S I P := by
  obtain ⟨z1, z2, z3, z4, ⟨z5, z6, z7, z8⟩, z9, z10, z11, z12, z13⟩ := z
  refine ⟨hs, hX, hM, by rw [z1, m0], fun k hk => ⟨Or.inl ⟨(z12 k hk).1, m1 k hk⟩, by rw [m2, (z12 k hk).2], 0, by rw [m2]; rfl, by omega⟩, ⟨by rw [z2, m0], by rw [z3, m0], 0, by rw [z2]; rfl, by omega, fun i hi => absurd hi (by omega)⟩, ⟨by rw [z10, m0], 0, 0, by rw [z9]; rfl, by omega, by rw [z10]; rfl, by omega, Or.inr ⟨rfl, ⟨m6 0, m6 1, m6 2, m6 3, fun p _ => m6 _⟩, z4, ⟨by rw [z5, m6], by rw [z6, m6], by rw [z7, m6], fun i hi => absurd hi (by omega), fun i hi => absurd hi (by omega), fun p hp => by rw [show I (30 + 3) p = 0 from z8 p hp, m6]⟩⟩⟩, fun k hk => Or.inl ⟨z13 k hk, m11 k⟩, [], by simp, ?_, ?_⟩
  · rw [z11]; exact Tr.nil
  · rw [m0]; exact Tr.nil
set_option maxHeartbeats 1000000 in
set_option maxRecDepth 20000 in
/-- from the law's entry on -/
theorem law_entry {E : pmE} {C : pmC} (G : pm_G E C RL code 4 2001 600000 7302250) {b L : Nat} {xs : Nat → Int32} (hX : va_X b L xs C.s C.s.heap) (hbl : b < C.s.heap.size) (hE : E.2.1 = C.s.heap.size) (hL : L ≤ 3072) (fin : ∀ (u : Int32) (S : pmS) (I : pmI) (P : pmP), pmZ E C 1179 [some (.ref b), some (rr E 0), some (rr E 660), some (.int u)] [] S I P 676 8217) {S : pmS} {I : pmI} {P : pmP} (hs : S.1 = 0) : pmZ E C 0 [some (.ref b), none, none, none] [] S I P 0 0 := by
  refine z_newo G nk_L_7 dL_law_0 ⟨by omega, by omega⟩ (fun S1 I1 P1 n1 => ?_)
  rw [hs]
  have ob1 := n1.ob hs
  have hs1 : S1.1 = 1 := by have := n1.1; omega
  refine z_dup G dL_law_3 rfl ?_
  refine z_callI G lk_L_9 dL_law_4 (As := []) rfl rfl rfl (Nat.le_of_ble_eq_true rfl) ⟨by omega, by omega⟩ (k_X9_init (d := 1996) ob1 hs1 (fun S2 I2 P2 hs2 x2 z2 => ⟨rfl, ?_⟩))
  refine z_astore_n G dL_law_7 (Nat.le_of_ble_eq_true rfl) rfl ?_
  refine z_newo G nk_L_10 dL_law_8 ⟨by omega, by omega⟩ (fun S3 I3 P3 n3 => ?_)
  rw [hs2]
  have ob3 := n3.ob hs2
  have hs3 : S3.1 = 660 + 1 := by have := n3.1; omega
  have so3 := n3.so
  have i3 := n3.it hs2
  refine z_dup G dL_law_11 rfl ?_
  refine z_callI G lk_L_12 dL_law_12 (As := []) rfl rfl rfl (Nat.le_of_ble_eq_true rfl) ⟨by omega, by omega⟩ (k_X10_init (d := 1999) (m := 660) ob3 hs3 (fun j => by rw [i3]) (fun S4 I4 P4 hs4 s4 hM m0 m1 m2 m6 m11 => ⟨rfl, ?_⟩))
  refine z_astore_n G dL_law_15 (Nat.le_of_ble_eq_true rfl) rfl ?_
  refine z_iconst G (v := 0) dL_law_16 (by decide) ?_
  refine z_istore_n G dL_law_17 (Nat.le_of_ble_eq_true rfl) rfl ?_
  have so4 : SO S2 S4 I2 I4 P2 P4 0 660 := (so3.sub (Nat.le_refl _) (by omega)).tr s4
  have x4 := x2.so so4
  have I4k : ∀ k, k < 660 → I4 k = I2 k := fun k hk => (so4.2 k (by omega) hk).2.2.1
  have z4 : X0z I4 := by
    obtain ⟨z1, z2, z3, z4, ⟨z5, z6, z7, z8⟩, z9, z10, z11, z12, z13⟩ := z2
    exact ⟨by rw [I4k _ (by omega)]; exact z1, by rw [I4k _ (by omega)]; exact z2, by rw [I4k _ (by omega)]; exact z3, by rw [I4k _ (by omega)]; exact z4, ⟨by rw [I4k _ (by omega)]; exact z5, by rw [I4k _ (by omega)]; exact z6, by rw [I4k _ (by omega)]; exact z7, fun p hp => by rw [I4k _ (by omega)]; exact z8 p hp⟩, by rw [I4k _ (by omega)]; exact z9, by rw [I4k _ (by omega)]; exact z10, by rw [I4k _ (by omega)]; exact z11, fun r hr => by rw [I4k _ (by omega)]; exact z12 r hr, fun k hk => by rw [I4k _ (by omega)]; exact z13 k hk⟩
  exact z_cs (by omega) (by omega) (law_loop G hX hbl hE hL fin L 0 0 S4 I4 P4 rfl (by omega) (by omega) (LW.first (by omega) x4 hM z4 m0 m1 m2 m6 m11))
