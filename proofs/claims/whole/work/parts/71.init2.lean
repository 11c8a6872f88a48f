def H9 (S : pmS) (I : pmI) (P : pmP) : Prop := OB S 0 9 ∧ (P 0 0 = some 1 ∧ P 0 1 = some 2 ∧ P 0 2 = some 27 ∧ P 0 3 = some 30 ∧ P 0 4 = some 50 ∧ P 0 5 = some 552 ∧ P 0 6 = some 553 ∧ P 0 7 = some 594) ∧ AR S 1 15 8 ∧ RdQ S I P 2 ∧ WQ S I P 27 ∧ DQ S I P 30 ∧ HQ S I P 50 ∧ AR S 552 14 2 ∧ FQ S P 553 ∧ AQ S I P 594 ∧ I 0 8 = 0
theorem H9.so {S S1 : pmS} {I I1 : pmI} {P P1 : pmP} (f : H9 S I P) (h : SO S S1 I I1 P P1 0 596) : H9 S1 I1 P1 := by
  obtain ⟨f1, ⟨p0, p1, p2, p3, p4, p5, p6, p7⟩, f2, f3, f4, f5, f6, f7, f8, f9, f10⟩ := f
  exact ⟨h.ob f1 (by omega) (by omega), ⟨h.pf p0 (by omega) (by omega), h.pf p1 (by omega) (by omega), h.pf p2 (by omega) (by omega), h.pf p3 (by omega) (by omega), h.pf p4 (by omega) (by omega), h.pf p5 (by omega) (by omega), h.pf p6 (by omega) (by omega), h.pf p7 (by omega) (by omega)⟩, h.ar f2 (by omega) (by omega), f3.so (h.sub (by omega) (by omega)), f4.so (h.sub (by omega) (by omega)), f5.so (h.sub (by omega) (by omega)), f6.so (h.sub (by omega) (by omega)), h.ar f7 (by omega) (by omega), f8.so (h.sub (by omega) (by omega)), f9.so (h.sub (by omega) (by omega)), h.it f10 (by omega) (by omega)⟩
theorem H9.pr {S : pmS} {I : pmI} {P P1 : pmP} {a j q : Nat} (f : H9 S I P) (h : PutR P P1 a j q) (ha : a = 1 ∨ a = 552) : H9 S I P1 := by
  obtain ⟨f1, ⟨p0, p1, p2, p3, p4, p5, p6, p7⟩, f2, f3, f4, f5, f6, f7, f8, f9, f10⟩ := f
  exact ⟨f1, ⟨h.pf p0 (by omega), h.pf p1 (by omega), h.pf p2 (by omega), h.pf p3 (by omega), h.pf p4 (by omega), h.pf p5 (by omega), h.pf p6 (by omega), h.pf p7 (by omega)⟩, f2, f3.so (h.so (by omega)), f4.so (h.so (by omega)), f5.so (h.so (by omega)), f6.so (h.so (by omega)), f7, f8.so (h.so (I := I) (by omega)), f9.so (h.so (by omega)), f10⟩
/-- a new object's numbers -/
def X0z (I : pmI) : Prop := I 0 8 = 0 ∧ I 2 3 = 0 ∧ I 2 4 = 0 ∧ I 27 2 = 0 ∧ (I 30 3 = 0 ∧ I 30 4 = 0 ∧ I 30 5 = 0 ∧ ∀ p, p < 8 → I 33 p = 0) ∧ I 50 1 = 0 ∧ I 50 2 = 0 ∧ I 594 1 = 0 ∧ (∀ r, r < 8 → I (596 + 2 * r) 1 = 0 ∧ I (596 + 2 * r) 3 = 0) ∧ ∀ k, k < 2 → I (612 + 24 * k) 2 = 0
theorem H9.fin {S : pmS} {I : pmI} {P : pmP} (f : H9 S I P) (hA : FB RQ 2 S I P 1 596 8) (hF : FB IQ 24 S I P 552 612 2) : XG S P ∧ X0z I := by
  obtain ⟨f1, ⟨p0, p1, p2, p3, p4, p5, p6, p7⟩, f2, ⟨r1, r2, r3, r4, r5, r6, r7, r8, r9⟩, ⟨w1, w2⟩, ⟨d1, d2, d3, d4, d5⟩, ⟨h1, h2, h3, h4, h5, h6⟩, f7, ⟨g1, g2, g3, g4, g5, g6, g7, g8, g9, g10, g11⟩, ⟨a1, a2, a3, a4⟩, f10⟩ := f
  refine ⟨⟨⟨f1, p0, p1, p2, p3, p4, p5, p6, p7⟩, ⟨f2, fun r hr => ?_⟩, ⟨r1, r2, r3, r4, r5, r6, r7⟩, w1, d1, ⟨h1, h2, h3, h4⟩, ⟨f7, fun k hk => ?_⟩, ⟨g1, g2, g3, g4, g5, g6, g7, g8, g9, g10, g11⟩, ⟨a1, a2, a3⟩⟩, f10, r8, r9, w2, ⟨d2, d3, d4, d5⟩, h5, h6, a4, fun r hr => ?_, fun k hk => ?_⟩
  · obtain ⟨x, y1, y2, y3, _⟩ := hA r hr
    rw [show 596 + 2 * r + 1 = 597 + 2 * r by omega] at y2 y3
    exact ⟨x, y1, y2, y3⟩
  · obtain ⟨x, y1, y2, y3, y4, y5, _⟩ := hF k hk
    rw [show 612 + 24 * k + 1 = 613 + 24 * k by omega] at y2 y4
    rw [show 612 + 24 * k + 4 = 616 + 24 * k by omega] at y3 y5
    exact ⟨x, y1, y2, y3, y4, y5⟩
  · obtain ⟨x, y1, y2, y3, y4, y5, y6⟩ := hA r hr
    exact ⟨y4, y6⟩
  · exact (hF k hk).2.2.2.2.2.2
set_option maxHeartbeats 1000000 in
set_option maxRecDepth 20000 in
theorem k_X9_init {E : pmE} {d : Nat} {S : pmS} {I : pmI} {P : pmP} {R : Option Value → pmS → pmI → pmP → Prop} (ob : OB S 0 9) (hs : S.1 = 1) (h : ∀ S1 I1 P1, S1.1 = 660 → XG S1 P1 → X0z I1 → R none S1 I1 P1) : pmX E (d + 4) 659 4093 yX9_init [rr E 0] S I P R := by
  refine pm_ofI (by decide) cd_X9_init (by decide) (by decide) (Nat.le_of_ble_eq_true rfl) ?_
  intro C G hq hin
  have loop2 : ∀ (r i : Nat) (u : Int32) (S1 : pmS) (I1 : pmI) (P1 : pmP), u.toInt = (i : Int) → i + r = 2 → S1.1 = 612 + 24 * i → SO S S1 I I1 P P1 0 0 → H9 S1 I1 P1 → FB RQ 2 S1 I1 P1 1 596 8 → FB IQ 24 S1 I1 P1 (552) (612) i → pmZ E C 124 [some (rr E 0), some (.int u)] [] S1 I1 P1 (611 + 24 * i) (3797 + 148 * i) := by
    intro r
    induction r with
    | zero =>
      intro i u S1 I1 P1 hu hr hs ext hH hA hF
      obtain rfl : i = 2 := by omega
      obtain ⟨f1, ⟨p0, p1, p2, p3, p4, p5, p6, p7⟩, f2, f3, f4, f5, f6, f7, f8, f9, f10⟩ := id hH
      refine z_iload_n G dX9_init_124 rfl ?_
      refine z_aload_n G dX9_init_125 rfl ?_
      refine z_getR G fl_X9_45 rfl dX9_init_126 f1 p5 ?_
      refine z_alen G 3 (v := 2) rfl (by decide) dX9_init_129 f7 (by decide) ?_
      refine z_icmp_ge G 152 dX9_init_130 (by decide) (fun _ => ?_) (fun c => absurd c (fun z => z (by simp (disch := omega) only [iN_lit, iN_add, iN_sub, iN_mul, iN_an, iN_le, iN_lt, iN_eq, iN_of hu] <;> omega)))
      obtain ⟨x1, x2⟩ := hH.fin hA hF
      exact z_cs (by omega) (by omega) (z_vret G hq dX9_init_152 (h S1 I1 P1 (by omega) x1 x2))
    | succ r ih =>
      intro i u S1 I1 P1 hu hr hs ext hH hA hF
      obtain ⟨f1, ⟨p0, p1, p2, p3, p4, p5, p6, p7⟩, f2, f3, f4, f5, f6, f7, f8, f9, f10⟩ := id hH
      refine z_iload_n G dX9_init_124 rfl ?_
      refine z_aload_n G dX9_init_125 rfl ?_
      refine z_getR G fl_X9_45 rfl dX9_init_126 f1 p5 ?_
      refine z_alen G 3 (v := 2) rfl (by decide) dX9_init_129 f7 (by decide) ?_
      refine z_icmp_ge G 152 dX9_init_130 (by decide) (fun c => absurd c (by simp (disch := omega) only [iN_lit, iN_add, iN_sub, iN_mul, iN_an, iN_le, iN_lt, iN_eq, iN_of hu]; omega)) (fun _ => ?_)
      refine z_aload_n G dX9_init_133 rfl ?_
      refine z_getR G fl_X9_45 rfl dX9_init_134 f1 p5 ?_
      refine z_iload_n G dX9_init_137 rfl ?_
      refine z_newo G nk_X9_43 dX9_init_138 ⟨by omega, by omega⟩ (fun S2 I2 P2 h2 => ?_)
      rw [hs]
      have obn := h2.ob hs
      have h2s := h2.so
      have hs2 : S2.1 = 612 + 24 * i + 1 := by have := h2.1; omega
      refine z_dup G dX9_init_141 rfl ?_
      refine z_callIN G (List.mem_of_getElem? (i := 8) rfl) ini_4 im_4 rfl ⟨by decide +kernel, by decide +kernel, by decide +kernel⟩ dX9_init_142 rfl (Nat.le_of_ble_eq_true rfl) ⟨by omega, by omega⟩ (k_X4_init obn hs2 (fun S3 I3 P3 hs3 h3 b3 => ⟨rfl, ?_⟩))
      have s13 : SO S1 S3 I1 I3 P1 P3 0 (612 + 24 * i) := (h2s.sub (by omega) (by omega)).tr h3
      have ext3 := ext.tr (s13.sub (by omega) (by omega))
      have hH3 := hH.so (s13.sub (by omega) (by omega))
      have hF3 := hF.so bso_im s13 (by omega) (by omega) (by omega) (by omega)
      have hA3 := hA.so bso_row s13 (by omega) (by omega) (by omega) (by omega)
      obtain ⟨f1, ⟨p0, p1, p2, p3, p4, p5, p6, p7⟩, f2, f3, f4, f5, f6, f7, f8, f9, f10⟩ := id hH3
      refine z_aastR G 3 i rfl (ci := 4) rfl (by decide) (by decide) dX9_init_145 f7 hu (by omega) b3.1 (fun P4 h4 => ?_)
      refine z_iinc G (v := 1) dX9_init_146 (by decide) rfl rfl ?_
      refine z_goto G 124 dX9_init_149 (by decide) ?_
      have hA4 := hA3.oth bso_row h4 (by omega) (by omega)
      exact z_cs (by omega) (by omega) (ih (i + 1) _ S3 I3 P4 (by simp (disch := omega) only [iN_lit, iN_add, iN_sub, iN_mul, iN_an, iN_of hu]; exact iN_ti2 (by omega) (by omega)) (by omega) (by omega) (ext3.tr (h4.so (by omega))) (hH3.pr h4 (by omega)) hA4 (hF3.put bso_im b3 h4 (by omega)))
  have loop1 : ∀ (r i : Nat) (u : Int32) (S1 : pmS) (I1 : pmI) (P1 : pmP), u.toInt = (i : Int) → i + r = 8 → S1.1 = 596 + 2 * i → SO S S1 I I1 P P1 0 0 → H9 S1 I1 P1 → FB RQ 2 S1 I1 P1 (1) (596) i → pmZ E C 94 [some (rr E 0), some (.int u)] [] S1 I1 P1 (595 + 2 * i) (3445 + 44 * i) := by
    intro r
    induction r with
    | zero =>
      intro i u S1 I1 P1 hu hr hs ext hH hF
      obtain rfl : i = 8 := by omega
      obtain ⟨f1, ⟨p0, p1, p2, p3, p4, p5, p6, p7⟩, f2, f3, f4, f5, f6, f7, f8, f9, f10⟩ := id hH
      refine z_iload_n G dX9_init_94 rfl ?_
      refine z_aload_n G dX9_init_95 rfl ?_
      refine z_getR G fl_X9_11 rfl dX9_init_96 f1 p0 ?_
      refine z_alen G 4 (v := 8) rfl (by decide) dX9_init_99 f2 (by decide) ?_
      refine z_icmp_ge G 122 dX9_init_100 (by decide) (fun _ => ?_) (fun c => absurd c (fun z => z (by simp (disch := omega) only [iN_lit, iN_add, iN_sub, iN_mul, iN_an, iN_le, iN_lt, iN_eq, iN_of hu] <;> omega)))
      refine z_iconst G (v := 0) dX9_init_122 (by decide) ?_
      refine z_istore_n G dX9_init_123 (Nat.le_of_ble_eq_true rfl) rfl ?_
      exact z_cs (by omega) (by omega) (loop2 2 0 0 S1 I1 P1 rfl (by omega) (by omega) ext hH hF FB.z)
    | succ r ih =>
      intro i u S1 I1 P1 hu hr hs ext hH hF
      obtain ⟨f1, ⟨p0, p1, p2, p3, p4, p5, p6, p7⟩, f2, f3, f4, f5, f6, f7, f8, f9, f10⟩ := id hH
      refine z_iload_n G dX9_init_94 rfl ?_
      refine z_aload_n G dX9_init_95 rfl ?_
      refine z_getR G fl_X9_11 rfl dX9_init_96 f1 p0 ?_
      refine z_alen G 4 (v := 8) rfl (by decide) dX9_init_99 f2 (by decide) ?_
      refine z_icmp_ge G 122 dX9_init_100 (by decide) (fun c => absurd c (by simp (disch := omega) only [iN_lit, iN_add, iN_sub, iN_mul, iN_an, iN_le, iN_lt, iN_eq, iN_of hu]; omega)) (fun _ => ?_)
      refine z_aload_n G dX9_init_103 rfl ?_
      refine z_getR G fl_X9_11 rfl dX9_init_104 f1 p0 ?_
      refine z_iload_n G dX9_init_107 rfl ?_
      refine z_newo G nk_X9_9 dX9_init_108 ⟨by omega, by omega⟩ (fun S2 I2 P2 h2 => ?_)
      rw [hs]
      have obn := h2.ob hs
      have h2s := h2.so
      have hs2 : S2.1 = 596 + 2 * i + 1 := by have := h2.1; omega
      refine z_dup G dX9_init_111 rfl ?_
      refine z_callIN G (List.mem_of_getElem? (i := 7) rfl) ini_6 im_6 rfl ⟨by decide +kernel, by decide +kernel, by decide +kernel⟩ dX9_init_112 rfl (Nat.le_of_ble_eq_true rfl) ⟨by omega, by omega⟩ (k_X6_init obn hs2 (fun S3 I3 P3 hs3 h3 b3 => ⟨rfl, ?_⟩))
      have s13 : SO S1 S3 I1 I3 P1 P3 0 (596 + 2 * i) := (h2s.sub (by omega) (by omega)).tr h3
      have ext3 := ext.tr (s13.sub (by omega) (by omega))
      have hH3 := hH.so (s13.sub (by omega) (by omega))
      have hF3 := hF.so bso_row s13 (by omega) (by omega) (by omega) (by omega)
      obtain ⟨f1, ⟨p0, p1, p2, p3, p4, p5, p6, p7⟩, f2, f3, f4, f5, f6, f7, f8, f9, f10⟩ := id hH3
      refine z_aastR G 4 i rfl (ci := 6) rfl (by decide) (by decide) dX9_init_115 f2 hu (by omega) b3.1 (fun P4 h4 => ?_)
      refine z_iinc G (v := 1) dX9_init_116 (by decide) rfl rfl ?_
      refine z_goto G 94 dX9_init_119 (by decide) ?_
      exact z_cs (by omega) (by omega) (ih (i + 1) _ S3 I3 P4 (by simp (disch := omega) only [iN_lit, iN_add, iN_sub, iN_mul, iN_an, iN_of hu]; exact iN_ti2 (by omega) (by omega)) (by omega) (by omega) (ext3.tr (h4.so (by omega))) (hH3.pr h4 (by omega)) (hF3.put bso_row b3 h4 (by omega)))
  have ext : SO S S I I P P 0 0 := SO.rf
  refine z_aload_n G dX9_init_0 rfl ?_
  refine z_objI G ml_X9_1 oi_m oi_c dX9_init_1 rfl (Nat.le_of_ble_eq_true rfl) ?_
  refine z_aload_n G dX9_init_4 rfl ?_
  refine z_bipush G (v := 8) dX9_init_5 (by decide) ?_
  refine z_newq G (N := 8) (c := 15) 4 rfl (by decide) cw_X9_9 ao_6 dX9_init_7 (by decide) (by omega) ⟨by omega, by omega⟩ (fun S1 I1 P1 h1 => ?_)
  rw [hs]
  have h1s := h1.so
  replace ob := h1s.ob ob (by omega) (by omega)
  replace ext := ext.tr (h1s.sub (by omega) (by omega))
  have ar1 := h1.ar hs
  have it1 := h1.it hs
  have hs : S1.1 = 2 := by have := h1.1; omega
  refine z_putR G hin fl_X9_11 ⟨_, rfl, rfl⟩ fr_9_0 rfl (fun _ => rfl) (fun _ => rfl) dX9_init_10 ob (fun P2 h2 => ?_)
  replace ext := ext.tr (h2.so (by omega))
  have p0 := h2.2.2
  refine z_aload_n G dX9_init_13 rfl ?_
  refine z_newo G nk_X9_15 dX9_init_14 ⟨by omega, by omega⟩ (fun S3 I3 P3 h3 => ?_)
  rw [hs]
  have h3s := h3.so
  replace ob := h3s.ob ob (by omega) (by omega)
  replace ext := ext.tr (h3s.sub (by omega) (by omega))
  replace ar1 := h3s.ar ar1 (by omega) (by omega)
  replace p0 := h3s.pf p0 (by omega) (by omega)
  have obn := h3.ob hs
  have hs : S3.1 = 2 + 1 := by have := h3.1; omega
  refine z_dup G dX9_init_17 rfl ?_
  refine z_callIN G (List.mem_of_getElem? (i := 0) rfl) ini_5 im_5 rfl ⟨by decide +kernel, by decide +kernel, by decide +kernel⟩ dX9_init_18 rfl (Nat.le_of_ble_eq_true rfl) ⟨by omega, by omega⟩ (k_X5_init obn hs (fun S4 I4 P4 hs h4 b2 => ⟨rfl, ?_⟩))
  replace ob := h4.ob ob (by omega) (by omega)
  replace ext := ext.tr (h4.sub (by omega) (by omega))
  replace ar1 := h4.ar ar1 (by omega) (by omega)
  replace p0 := h4.pf p0 (by omega) (by omega)
  have hs : S4.1 = 27 := by omega
  refine z_putR G hin fl_X9_18 ⟨_, rfl, rfl⟩ fr_9_1 rfl (fun _ => rfl) (fun _ => rfl) dX9_init_21 ob (fun P5 h5 => ?_)
  replace ext := ext.tr (h5.so (by omega))
  replace p0 := h5.pf p0 (by omega)
  replace b2 := b2.so (h5.so (I := I4) (by omega))
  have p1 := h5.2.2
  refine z_aload_n G dX9_init_24 rfl ?_
  refine z_newo G nk_X9_22 dX9_init_25 ⟨by omega, by omega⟩ (fun S6 I6 P6 h6 => ?_)
  rw [hs]
  have h6s := h6.so
  replace ob := h6s.ob ob (by omega) (by omega)
  replace ext := ext.tr (h6s.sub (by omega) (by omega))
  replace ar1 := h6s.ar ar1 (by omega) (by omega)
  replace p0 := h6s.pf p0 (by omega) (by omega)
  replace b2 := b2.so (h6s.sub (by omega) (by omega))
  replace p1 := h6s.pf p1 (by omega) (by omega)
  have obn := h6.ob hs
  have hs : S6.1 = 27 + 1 := by have := h6.1; omega
  refine z_dup G dX9_init_28 rfl ?_
  refine z_callIN G (List.mem_of_getElem? (i := 3) rfl) ini_8 im_8 rfl ⟨by decide +kernel, by decide +kernel, by decide +kernel⟩ dX9_init_29 rfl (Nat.le_of_ble_eq_true rfl) ⟨by omega, by omega⟩ (k_X8_init obn hs (fun S7 I7 P7 hs h7 b27 => ⟨rfl, ?_⟩))
  replace ob := h7.ob ob (by omega) (by omega)
  replace ext := ext.tr (h7.sub (by omega) (by omega))
  replace ar1 := h7.ar ar1 (by omega) (by omega)
  replace p0 := h7.pf p0 (by omega) (by omega)
  replace b2 := b2.so (h7.sub (by omega) (by omega))
  replace p1 := h7.pf p1 (by omega) (by omega)
  have hs : S7.1 = 30 := by omega
  refine z_putR G hin fl_X9_25 ⟨_, rfl, rfl⟩ fr_9_2 rfl (fun _ => rfl) (fun _ => rfl) dX9_init_32 ob (fun P8 h8 => ?_)
  replace ext := ext.tr (h8.so (by omega))
  replace p0 := h8.pf p0 (by omega)
  replace b2 := b2.so (h8.so (I := I7) (by omega))
  replace p1 := h8.pf p1 (by omega)
  replace b27 := b27.so (h8.so (I := I7) (by omega))
  have p2 := h8.2.2
  refine z_aload_n G dX9_init_35 rfl ?_
  refine z_newo G nk_X9_29 dX9_init_36 ⟨by omega, by omega⟩ (fun S9 I9 P9 h9 => ?_)
  rw [hs]
  have h9s := h9.so
  replace ob := h9s.ob ob (by omega) (by omega)
  replace ext := ext.tr (h9s.sub (by omega) (by omega))
  replace ar1 := h9s.ar ar1 (by omega) (by omega)
  replace p0 := h9s.pf p0 (by omega) (by omega)
  replace b2 := b2.so (h9s.sub (by omega) (by omega))
  replace p1 := h9s.pf p1 (by omega) (by omega)
  replace b27 := b27.so (h9s.sub (by omega) (by omega))
  replace p2 := h9s.pf p2 (by omega) (by omega)
  have obn := h9.ob hs
  have hs : S9.1 = 30 + 1 := by have := h9.1; omega
  refine z_dup G dX9_init_39 rfl ?_
  refine z_callI G lk_X9_31 dX9_init_40 (As := []) rfl rfl rfl (Nat.le_of_ble_eq_true rfl) ⟨by omega, by omega⟩ (k_X1_init obn hs (fun S10 I10 P10 hs h10 b30 => ⟨rfl, ?_⟩))
  replace ob := h10.ob ob (by omega) (by omega)
  replace ext := ext.tr (h10.sub (by omega) (by omega))
  replace ar1 := h10.ar ar1 (by omega) (by omega)
  replace p0 := h10.pf p0 (by omega) (by omega)
  replace b2 := b2.so (h10.sub (by omega) (by omega))
  replace p1 := h10.pf p1 (by omega) (by omega)
  replace b27 := b27.so (h10.sub (by omega) (by omega))
  replace p2 := h10.pf p2 (by omega) (by omega)
  have hs : S10.1 = 50 := by omega
  refine z_putR G hin fl_X9_32 ⟨_, rfl, rfl⟩ fr_9_3 rfl (fun _ => rfl) (fun _ => rfl) dX9_init_43 ob (fun P11 h11 => ?_)
  replace ext := ext.tr (h11.so (by omega))
  replace p0 := h11.pf p0 (by omega)
  replace b2 := b2.so (h11.so (I := I10) (by omega))
  replace p1 := h11.pf p1 (by omega)
  replace b27 := b27.so (h11.so (I := I10) (by omega))
  replace p2 := h11.pf p2 (by omega)
  replace b30 := b30.so (h11.so (I := I10) (by omega))
  have p3 := h11.2.2
  refine z_aload_n G dX9_init_46 rfl ?_
  refine z_newo G nk_X9_36 dX9_init_47 ⟨by omega, by omega⟩ (fun S12 I12 P12 h12 => ?_)
  rw [hs]
  have h12s := h12.so
  replace ob := h12s.ob ob (by omega) (by omega)
  replace ext := ext.tr (h12s.sub (by omega) (by omega))
  replace ar1 := h12s.ar ar1 (by omega) (by omega)
  replace p0 := h12s.pf p0 (by omega) (by omega)
  replace b2 := b2.so (h12s.sub (by omega) (by omega))
  replace p1 := h12s.pf p1 (by omega) (by omega)
  replace b27 := b27.so (h12s.sub (by omega) (by omega))
  replace p2 := h12s.pf p2 (by omega) (by omega)
  replace b30 := b30.so (h12s.sub (by omega) (by omega))
  replace p3 := h12s.pf p3 (by omega) (by omega)
  have obn := h12.ob hs
  have hs : S12.1 = 50 + 1 := by have := h12.1; omega
  refine z_dup G dX9_init_50 rfl ?_
  refine z_callI G lk_X9_38 dX9_init_51 (As := []) rfl rfl rfl (Nat.le_of_ble_eq_true rfl) ⟨by omega, by omega⟩ (k_X3_init obn hs (fun S13 I13 P13 hs h13 b50 => ⟨rfl, ?_⟩))
  replace ob := h13.ob ob (by omega) (by omega)
  replace ext := ext.tr (h13.sub (by omega) (by omega))
  replace ar1 := h13.ar ar1 (by omega) (by omega)
  replace p0 := h13.pf p0 (by omega) (by omega)
  replace b2 := b2.so (h13.sub (by omega) (by omega))
  replace p1 := h13.pf p1 (by omega) (by omega)
  replace b27 := b27.so (h13.sub (by omega) (by omega))
  replace p2 := h13.pf p2 (by omega) (by omega)
  replace b30 := b30.so (h13.sub (by omega) (by omega))
  replace p3 := h13.pf p3 (by omega) (by omega)
  have hs : S13.1 = 552 := by omega
  refine z_putR G hin fl_X9_39 ⟨_, rfl, rfl⟩ fr_9_4 rfl (fun _ => rfl) (fun _ => rfl) dX9_init_54 ob (fun P14 h14 => ?_)
  replace ext := ext.tr (h14.so (by omega))
  replace p0 := h14.pf p0 (by omega)
  replace b2 := b2.so (h14.so (I := I13) (by omega))
  replace p1 := h14.pf p1 (by omega)
  replace b27 := b27.so (h14.so (I := I13) (by omega))
  replace p2 := h14.pf p2 (by omega)
  replace b30 := b30.so (h14.so (I := I13) (by omega))
  replace p3 := h14.pf p3 (by omega)
  replace b50 := b50.so (h14.so (I := I13) (by omega))
  have p4 := h14.2.2
  refine z_aload_n G dX9_init_57 rfl ?_
  refine z_iconst G (v := 2) dX9_init_58 (by decide) ?_
  refine z_newq G (N := 2) (c := 14) 3 rfl (by decide) cw_X9_43 ao_4 dX9_init_59 (by decide) (by omega) ⟨by omega, by omega⟩ (fun S15 I15 P15 h15 => ?_)
  rw [hs]
  have h15s := h15.so
  replace ob := h15s.ob ob (by omega) (by omega)
  replace ext := ext.tr (h15s.sub (by omega) (by omega))
  replace ar1 := h15s.ar ar1 (by omega) (by omega)
  replace p0 := h15s.pf p0 (by omega) (by omega)
  replace b2 := b2.so (h15s.sub (by omega) (by omega))
  replace p1 := h15s.pf p1 (by omega) (by omega)
  replace b27 := b27.so (h15s.sub (by omega) (by omega))
  replace p2 := h15s.pf p2 (by omega) (by omega)
  replace b30 := b30.so (h15s.sub (by omega) (by omega))
  replace p3 := h15s.pf p3 (by omega) (by omega)
  replace b50 := b50.so (h15s.sub (by omega) (by omega))
  replace p4 := h15s.pf p4 (by omega) (by omega)
  have ar552 := h15.ar hs
  have it552 := h15.it hs
  have hs : S15.1 = 553 := by have := h15.1; omega
  refine z_putR G hin fl_X9_45 ⟨_, rfl, rfl⟩ fr_9_5 rfl (fun _ => rfl) (fun _ => rfl) dX9_init_62 ob (fun P16 h16 => ?_)
  replace ext := ext.tr (h16.so (by omega))
  replace p0 := h16.pf p0 (by omega)
  replace b2 := b2.so (h16.so (I := I15) (by omega))
  replace p1 := h16.pf p1 (by omega)
  replace b27 := b27.so (h16.so (I := I15) (by omega))
  replace p2 := h16.pf p2 (by omega)
  replace b30 := b30.so (h16.so (I := I15) (by omega))
  replace p3 := h16.pf p3 (by omega)
  replace b50 := b50.so (h16.so (I := I15) (by omega))
  replace p4 := h16.pf p4 (by omega)
  have p5 := h16.2.2
  refine z_aload_n G dX9_init_65 rfl ?_
  refine z_newo G nk_X9_49 dX9_init_66 ⟨by omega, by omega⟩ (fun S17 I17 P17 h17 => ?_)
  rw [hs]
  have h17s := h17.so
  replace ob := h17s.ob ob (by omega) (by omega)
  replace ext := ext.tr (h17s.sub (by omega) (by omega))
  replace ar1 := h17s.ar ar1 (by omega) (by omega)
  replace p0 := h17s.pf p0 (by omega) (by omega)
  replace b2 := b2.so (h17s.sub (by omega) (by omega))
  replace p1 := h17s.pf p1 (by omega) (by omega)
  replace b27 := b27.so (h17s.sub (by omega) (by omega))
  replace p2 := h17s.pf p2 (by omega) (by omega)
  replace b30 := b30.so (h17s.sub (by omega) (by omega))
  replace p3 := h17s.pf p3 (by omega) (by omega)
  replace b50 := b50.so (h17s.sub (by omega) (by omega))
  replace p4 := h17s.pf p4 (by omega) (by omega)
  replace ar552 := h17s.ar ar552 (by omega) (by omega)
  replace p5 := h17s.pf p5 (by omega) (by omega)
  have obn := h17.ob hs
  have hs : S17.1 = 553 + 1 := by have := h17.1; omega
  refine z_dup G dX9_init_69 rfl ?_
  refine z_callI G lk_X9_51 dX9_init_70 (As := []) rfl rfl rfl (Nat.le_of_ble_eq_true rfl) ⟨by omega, by omega⟩ (k_X2_init obn hs (fun S18 I18 P18 hs h18 b553 => ⟨rfl, ?_⟩))
  replace ob := h18.ob ob (by omega) (by omega)
  replace ext := ext.tr (h18.sub (by omega) (by omega))
  replace ar1 := h18.ar ar1 (by omega) (by omega)
  replace p0 := h18.pf p0 (by omega) (by omega)
  replace b2 := b2.so (h18.sub (by omega) (by omega))
  replace p1 := h18.pf p1 (by omega) (by omega)
  replace b27 := b27.so (h18.sub (by omega) (by omega))
  replace p2 := h18.pf p2 (by omega) (by omega)
  replace b30 := b30.so (h18.sub (by omega) (by omega))
  replace p3 := h18.pf p3 (by omega) (by omega)
  replace b50 := b50.so (h18.sub (by omega) (by omega))
  replace p4 := h18.pf p4 (by omega) (by omega)
  replace ar552 := h18.ar ar552 (by omega) (by omega)
  replace p5 := h18.pf p5 (by omega) (by omega)
  have hs : S18.1 = 594 := by omega
  refine z_putR G hin fl_X9_52 ⟨_, rfl, rfl⟩ fr_9_6 rfl (fun _ => rfl) (fun _ => rfl) dX9_init_73 ob (fun P19 h19 => ?_)
  replace ext := ext.tr (h19.so (by omega))
  replace p0 := h19.pf p0 (by omega)
  replace b2 := b2.so (h19.so (I := I18) (by omega))
  replace p1 := h19.pf p1 (by omega)
  replace b27 := b27.so (h19.so (I := I18) (by omega))
  replace p2 := h19.pf p2 (by omega)
  replace b30 := b30.so (h19.so (I := I18) (by omega))
  replace p3 := h19.pf p3 (by omega)
  replace b50 := b50.so (h19.so (I := I18) (by omega))
  replace p4 := h19.pf p4 (by omega)
  replace p5 := h19.pf p5 (by omega)
  replace b553 := b553.so (h19.so (I := I18) (by omega))
  have p6 := h19.2.2
  refine z_aload_n G dX9_init_76 rfl ?_
  refine z_newo G nk_X9_56 dX9_init_77 ⟨by omega, by omega⟩ (fun S20 I20 P20 h20 => ?_)
  rw [hs]
  have h20s := h20.so
  replace ob := h20s.ob ob (by omega) (by omega)
  replace ext := ext.tr (h20s.sub (by omega) (by omega))
  replace ar1 := h20s.ar ar1 (by omega) (by omega)
  replace p0 := h20s.pf p0 (by omega) (by omega)
  replace b2 := b2.so (h20s.sub (by omega) (by omega))
  replace p1 := h20s.pf p1 (by omega) (by omega)
  replace b27 := b27.so (h20s.sub (by omega) (by omega))
  replace p2 := h20s.pf p2 (by omega) (by omega)
  replace b30 := b30.so (h20s.sub (by omega) (by omega))
  replace p3 := h20s.pf p3 (by omega) (by omega)
  replace b50 := b50.so (h20s.sub (by omega) (by omega))
  replace p4 := h20s.pf p4 (by omega) (by omega)
  replace ar552 := h20s.ar ar552 (by omega) (by omega)
  replace p5 := h20s.pf p5 (by omega) (by omega)
  replace b553 := b553.so (h20s.sub (by omega) (by omega))
  replace p6 := h20s.pf p6 (by omega) (by omega)
  have obn := h20.ob hs
  have hs : S20.1 = 594 + 1 := by have := h20.1; omega
  refine z_dup G dX9_init_80 rfl ?_
  refine z_callIN G (List.mem_of_getElem? (i := 6) rfl) ini_0 im_0 rfl ⟨by decide +kernel, by decide +kernel, by decide +kernel⟩ dX9_init_81 rfl (Nat.le_of_ble_eq_true rfl) ⟨by omega, by omega⟩ (k_X0_init obn hs (fun S21 I21 P21 hs h21 b594 => ⟨rfl, ?_⟩))
  replace ob := h21.ob ob (by omega) (by omega)
  replace ext := ext.tr (h21.sub (by omega) (by omega))
  replace ar1 := h21.ar ar1 (by omega) (by omega)
  replace p0 := h21.pf p0 (by omega) (by omega)
  replace b2 := b2.so (h21.sub (by omega) (by omega))
  replace p1 := h21.pf p1 (by omega) (by omega)
  replace b27 := b27.so (h21.sub (by omega) (by omega))
  replace p2 := h21.pf p2 (by omega) (by omega)
  replace b30 := b30.so (h21.sub (by omega) (by omega))
  replace p3 := h21.pf p3 (by omega) (by omega)
  replace b50 := b50.so (h21.sub (by omega) (by omega))
  replace p4 := h21.pf p4 (by omega) (by omega)
  replace ar552 := h21.ar ar552 (by omega) (by omega)
  replace p5 := h21.pf p5 (by omega) (by omega)
  replace b553 := b553.so (h21.sub (by omega) (by omega))
  replace p6 := h21.pf p6 (by omega) (by omega)
  have hs : S21.1 = 596 := by omega
  refine z_putR G hin fl_X9_59 ⟨_, rfl, rfl⟩ fr_9_7 rfl (fun _ => rfl) (fun _ => rfl) dX9_init_84 ob (fun P22 h22 => ?_)
  replace ext := ext.tr (h22.so (by omega))
  replace p0 := h22.pf p0 (by omega)
  replace b2 := b2.so (h22.so (I := I21) (by omega))
  replace p1 := h22.pf p1 (by omega)
  replace b27 := b27.so (h22.so (I := I21) (by omega))
  replace p2 := h22.pf p2 (by omega)
  replace b30 := b30.so (h22.so (I := I21) (by omega))
  replace p3 := h22.pf p3 (by omega)
  replace b50 := b50.so (h22.so (I := I21) (by omega))
  replace p4 := h22.pf p4 (by omega)
  replace p5 := h22.pf p5 (by omega)
  replace b553 := b553.so (h22.so (I := I21) (by omega))
  replace p6 := h22.pf p6 (by omega)
  replace b594 := b594.so (h22.so (I := I21) (by omega))
  have p7 := h22.2.2
  refine z_aload_n G dX9_init_87 rfl ?_
  refine z_iconst G (v := 0) dX9_init_88 (by decide) ?_
  refine z_putJ G fl_X9_63 ft_9_8 rfl rfl rfl dX9_init_89 ob (fun I23 h23 => ?_)
  replace ext := ext.tr (h23.so (by omega))
  replace b2 := b2.so (h23.so (by omega))
  replace b27 := b27.so (h23.so (by omega))
  replace b30 := b30.so (h23.so (by omega))
  replace b50 := b50.so (h23.so (by omega))
  replace b553 := b553.so (h23.so (by omega))
  replace b594 := b594.so (h23.so (by omega))
  have i8 := h23.2.2
  refine z_iconst G (v := 0) dX9_init_92 (by decide) ?_
  refine z_istore_n G dX9_init_93 (Nat.le_of_ble_eq_true rfl) rfl ?_
  exact z_cs (by omega) (by omega) (loop1 8 0 0 _ _ _ rfl (by omega) (by omega) ext ⟨ob, ⟨p0, p1, p2, p3, p4, p5, p6, p7⟩, ar1, b2, b27, b30, b50, ar552, b553, b594, i8⟩ FB.z)
