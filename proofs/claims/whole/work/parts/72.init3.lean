/-! the reference's constructor -/
def fi10 (i : Nat) : Nat := match i with | 0 => 0 | 1 => 1 | 2 => 2 | 3 => 3 | 4 => 5 | 5 => 13 | 6 => 14 | 7 => 15 | 8 => 16 | 9 => 18 | 10 => 19 | 11 => 20 | 12 => 21 | 13 => 22 | 14 => 23 | _ => 0
def fl10 (i : Nat) : Nat := match i with | 0 => 8 | 1 => 8 | 2 => 320 | 3 => 40 | 4 => 80 | 5 => 124 | 6 => 124 | 7 => 124 | 8 => 2976 | 9 => 248 | 10 => 2 | 11 => 8 | 12 => 8 | 13 => 4 | 14 => 16 | _ => 0
def fk10 (i : Nat) : Nat := match i with | 0 => 11 | 1 => 11 | 2 => 11 | 3 => 11 | 4 => 11 | 5 => 11 | 6 => 11 | 7 => 11 | 8 => 11 | 9 => 11 | 10 => 12 | 11 => 11 | 12 => 11 | 13 => 11 | 14 => 11 | _ => 0
/-- the first k rows are made -/
def MK (S : pmS) (I : pmI) (P : pmP) (m k : Nat) : Prop := OB S m 10 ∧ S.1 = m + 1 + k ∧ (∀ j, I m j = 0) ∧ ∀ i, i < k → P m (fi10 i) = some (m + 1 + i) ∧ AR S (m + 1 + i) (fk10 i) (fl10 i) ∧ ∀ j, I (m + 1 + i) j = 0
theorem MK.step {S S1 : pmS} {I I1 : pmI} {P P1 P2 : pmP} {m k c n f : Nat} (h : MK S I P m k) (hN : Nw1 S S1 I I1 P P1 c n) (hR : PutR P1 P2 m f (m + 1 + k)) (hc : c = fk10 k) (hn : n = fl10 k) (hf : f = fi10 k) (hfi : ∀ i, i < k → fi10 i ≠ fi10 k) : MK S1 I1 P2 m (k + 1) := by
  subst hc hn hf
  obtain ⟨h1, h2, h3, h4⟩ := h
  have hs := hN.so
  refine ⟨hs.ob h1 (by omega) (by omega), by have := hN.1; omega, fun j => hs.it (h3 j) (by omega) (by omega), fun i hi => ?_⟩
  by_cases e : i = k
  · subst e
    exact ⟨hR.2.2, hN.ar h2, fun j => by rw [hN.it h2]⟩
  · obtain ⟨x1, x2, x3⟩ := h4 i (by omega)
    exact ⟨hR.pf (hs.pf x1 (by omega) (by omega)) (Or.inr (hfi i (by omega))), hs.ar x2 (by omega) (by omega), fun j => hs.it (x3 j) (by omega) (by omega)⟩
theorem MK.mg {S : pmS} {I : pmI} {P : pmP} {m : Nat} (h : MK S I P m 15) : MG S P m := by
  obtain ⟨h1, h2, h3, h4⟩ := h
  refine ⟨h1, ⟨(h4 0 (by omega)).1, (h4 1 (by omega)).1, (h4 2 (by omega)).1, (h4 3 (by omega)).1, (h4 4 (by omega)).1, (h4 5 (by omega)).1, (h4 6 (by omega)).1, (h4 7 (by omega)).1, (h4 8 (by omega)).1, (h4 9 (by omega)).1, (h4 10 (by omega)).1, (h4 11 (by omega)).1, (h4 12 (by omega)).1, (h4 13 (by omega)).1, (h4 14 (by omega)).1⟩, ⟨(h4 0 (by omega)).2.1, (h4 1 (by omega)).2.1, (h4 2 (by omega)).2.1, (h4 3 (by omega)).2.1, (h4 4 (by omega)).2.1, (h4 5 (by omega)).2.1, (h4 6 (by omega)).2.1, (h4 7 (by omega)).2.1, (h4 8 (by omega)).2.1, (h4 9 (by omega)).2.1, (h4 10 (by omega)).2.1, (h4 11 (by omega)).2.1, (h4 12 (by omega)).2.1, (h4 13 (by omega)).2.1, (h4 14 (by omega)).2.1⟩⟩
set_option maxHeartbeats 1000000 in
set_option maxRecDepth 20000 in
theorem k_X10_init {E : pmE} {d : Nat} {S : pmS} {I : pmI} {P : pmP} {R : Option Value → pmS → pmI → pmP → Prop} {m : Nat} (ob : OB S m 10) (hs : S.1 = m + 1) (z0 : ∀ j, I m j = 0) (h : ∀ S1 I1 P1, S1.1 = m + 16 → SO S S1 I I1 P P1 0 m → MG S1 P1 m → (∀ j, I1 m j = 0) → (∀ k, k < 8 → I1 (m + 1) k = -1000000) → (∀ j, I1 (m + 2) j = 0) → (∀ j, I1 (m + 6) j = 0) → (∀ j, I1 (m + 11) j = 0) → R none S1 I1 P1) : pmX E (d + 1) 15 4090 yX10_init [rr E m] S I P R := by
  refine pm_ofI (by decide) cd_X10_init (by decide) (by decide) (Nat.le_of_ble_eq_true rfl) ?_
  intro C G hq hin
  have mk0 : MK S I P m 0 := ⟨ob, hs, z0, fun i hi => absurd hi (by omega)⟩
  have ext0 : SO S S I I P P 0 m := SO.rf
  refine z_aload_n G dX10_init_0 rfl ?_
  refine z_objI G ml_X10_1 oi_m oi_c dX10_init_1 rfl (Nat.le_of_ble_eq_true rfl) ?_
  refine z_aload_n G dX10_init_4 rfl ?_
  refine z_bipush G (v := 8) dX10_init_5 (by decide) ?_
  refine z_newi G (N := 8) aw_i dX10_init_7 (by decide) (by decide) ⟨by decide, by decide⟩ (fun S1 I1 Q1 n1 => ?_)
  rw [mk0.2.1]
  refine z_putR G hin fl_X10_7 ⟨_, rfl, rfl⟩ fr_10_0 rfl (fun _ => rfl) (fun _ => rfl) dX10_init_9 (n1.so.ob mk0.1 (Nat.zero_le _) (by rw [mk0.2.1]; omega)) (fun P1 r1 => ?_)
  have mk1 := mk0.step n1 r1 rfl rfl rfl (by decide)
  have ext1 := ext0.tr ((n1.so.sub (Nat.le_refl _) (by rw [mk0.2.1]; omega)).tr (r1.so (Or.inr (Nat.le_refl _))))
  clear n1 r1 ext0 mk0
  refine z_aload_n G dX10_init_12 rfl ?_
  refine z_bipush G (v := 8) dX10_init_13 (by decide) ?_
  refine z_newi G (N := 8) aw_i dX10_init_15 (by decide) (by decide) ⟨by decide, by decide⟩ (fun S2 I2 Q2 n2 => ?_)
  rw [mk1.2.1]
  refine z_putR G hin fl_X10_13 ⟨_, rfl, rfl⟩ fr_10_1 rfl (fun _ => rfl) (fun _ => rfl) dX10_init_17 (n2.so.ob mk1.1 (Nat.zero_le _) (by rw [mk1.2.1]; omega)) (fun P2 r2 => ?_)
  have mk2 := mk1.step n2 r2 rfl rfl rfl (by decide)
  have ext2 := ext1.tr ((n2.so.sub (Nat.le_refl _) (by rw [mk1.2.1]; omega)).tr (r2.so (Or.inr (Nat.le_refl _))))
  clear n2 r2 ext1 mk1
  refine z_aload_n G dX10_init_20 rfl ?_
  refine z_sipush G (v := 320) dX10_init_21 (by decide) ?_
  refine z_newi G (N := 320) aw_i dX10_init_24 (by decide) (by decide) ⟨by decide, by decide⟩ (fun S3 I3 Q3 n3 => ?_)
  rw [mk2.2.1]
  refine z_putR G hin fl_X10_16 ⟨_, rfl, rfl⟩ fr_10_2 rfl (fun _ => rfl) (fun _ => rfl) dX10_init_26 (n3.so.ob mk2.1 (Nat.zero_le _) (by rw [mk2.2.1]; omega)) (fun P3 r3 => ?_)
  have mk3 := mk2.step n3 r3 rfl rfl rfl (by decide)
  have ext3 := ext2.tr ((n3.so.sub (Nat.le_refl _) (by rw [mk2.2.1]; omega)).tr (r3.so (Or.inr (Nat.le_refl _))))
  clear n3 r3 ext2 mk2
  refine z_aload_n G dX10_init_29 rfl ?_
  refine z_bipush G (v := 40) dX10_init_30 (by decide) ?_
  refine z_newi G (N := 40) aw_i dX10_init_32 (by decide) (by decide) ⟨by decide, by decide⟩ (fun S4 I4 Q4 n4 => ?_)
  rw [mk3.2.1]
  refine z_putR G hin fl_X10_19 ⟨_, rfl, rfl⟩ fr_10_3 rfl (fun _ => rfl) (fun _ => rfl) dX10_init_34 (n4.so.ob mk3.1 (Nat.zero_le _) (by rw [mk3.2.1]; omega)) (fun P4 r4 => ?_)
  have mk4 := mk3.step n4 r4 rfl rfl rfl (by decide)
  have ext4 := ext3.tr ((n4.so.sub (Nat.le_refl _) (by rw [mk3.2.1]; omega)).tr (r4.so (Or.inr (Nat.le_refl _))))
  clear n4 r4 ext3 mk3
  refine z_aload_n G dX10_init_37 rfl ?_
  refine z_bipush G (v := 80) dX10_init_38 (by decide) ?_
  refine z_newi G (N := 80) aw_i dX10_init_40 (by decide) (by decide) ⟨by decide, by decide⟩ (fun S5 I5 Q5 n5 => ?_)
  rw [mk4.2.1]
  refine z_putR G hin fl_X10_22 ⟨_, rfl, rfl⟩ fr_10_5 rfl (fun _ => rfl) (fun _ => rfl) dX10_init_42 (n5.so.ob mk4.1 (Nat.zero_le _) (by rw [mk4.2.1]; omega)) (fun P5 r5 => ?_)
  have mk5 := mk4.step n5 r5 rfl rfl rfl (by decide)
  have ext5 := ext4.tr ((n5.so.sub (Nat.le_refl _) (by rw [mk4.2.1]; omega)).tr (r5.so (Or.inr (Nat.le_refl _))))
  clear n5 r5 ext4 mk4
  refine z_aload_n G dX10_init_45 rfl ?_
  refine z_bipush G (v := 124) dX10_init_46 (by decide) ?_
  refine z_newi G (N := 124) aw_i dX10_init_48 (by decide) (by decide) ⟨by decide, by decide⟩ (fun S6 I6 Q6 n6 => ?_)
  rw [mk5.2.1]
  refine z_putR G hin fl_X10_25 ⟨_, rfl, rfl⟩ fr_10_13 rfl (fun _ => rfl) (fun _ => rfl) dX10_init_50 (n6.so.ob mk5.1 (Nat.zero_le _) (by rw [mk5.2.1]; omega)) (fun P6 r6 => ?_)
  have mk6 := mk5.step n6 r6 rfl rfl rfl (by decide)
  have ext6 := ext5.tr ((n6.so.sub (Nat.le_refl _) (by rw [mk5.2.1]; omega)).tr (r6.so (Or.inr (Nat.le_refl _))))
  clear n6 r6 ext5 mk5
  refine z_aload_n G dX10_init_53 rfl ?_
  refine z_bipush G (v := 124) dX10_init_54 (by decide) ?_
  refine z_newi G (N := 124) aw_i dX10_init_56 (by decide) (by decide) ⟨by decide, by decide⟩ (fun S7 I7 Q7 n7 => ?_)
  rw [mk6.2.1]
  refine z_putR G hin fl_X10_28 ⟨_, rfl, rfl⟩ fr_10_14 rfl (fun _ => rfl) (fun _ => rfl) dX10_init_58 (n7.so.ob mk6.1 (Nat.zero_le _) (by rw [mk6.2.1]; omega)) (fun P7 r7 => ?_)
  have mk7 := mk6.step n7 r7 rfl rfl rfl (by decide)
  have ext7 := ext6.tr ((n7.so.sub (Nat.le_refl _) (by rw [mk6.2.1]; omega)).tr (r7.so (Or.inr (Nat.le_refl _))))
  clear n7 r7 ext6 mk6
  refine z_aload_n G dX10_init_61 rfl ?_
  refine z_bipush G (v := 124) dX10_init_62 (by decide) ?_
  refine z_newi G (N := 124) aw_i dX10_init_64 (by decide) (by decide) ⟨by decide, by decide⟩ (fun S8 I8 Q8 n8 => ?_)
  rw [mk7.2.1]
  refine z_putR G hin fl_X10_31 ⟨_, rfl, rfl⟩ fr_10_15 rfl (fun _ => rfl) (fun _ => rfl) dX10_init_66 (n8.so.ob mk7.1 (Nat.zero_le _) (by rw [mk7.2.1]; omega)) (fun P8 r8 => ?_)
  have mk8 := mk7.step n8 r8 rfl rfl rfl (by decide)
  have ext8 := ext7.tr ((n8.so.sub (Nat.le_refl _) (by rw [mk7.2.1]; omega)).tr (r8.so (Or.inr (Nat.le_refl _))))
  clear n8 r8 ext7 mk7
  refine z_aload_n G dX10_init_69 rfl ?_
  refine z_sipush G (v := 2976) dX10_init_70 (by decide) ?_
  refine z_newi G (N := 2976) aw_i dX10_init_73 (by decide) (by decide) ⟨by decide, by decide⟩ (fun S9 I9 Q9 n9 => ?_)
  rw [mk8.2.1]
  refine z_putR G hin fl_X10_34 ⟨_, rfl, rfl⟩ fr_10_16 rfl (fun _ => rfl) (fun _ => rfl) dX10_init_75 (n9.so.ob mk8.1 (Nat.zero_le _) (by rw [mk8.2.1]; omega)) (fun P9 r9 => ?_)
  have mk9 := mk8.step n9 r9 rfl rfl rfl (by decide)
  have ext9 := ext8.tr ((n9.so.sub (Nat.le_refl _) (by rw [mk8.2.1]; omega)).tr (r9.so (Or.inr (Nat.le_refl _))))
  clear n9 r9 ext8 mk8
  refine z_aload_n G dX10_init_78 rfl ?_
  refine z_sipush G (v := 248) dX10_init_79 (by decide) ?_
  refine z_newi G (N := 248) aw_i dX10_init_82 (by decide) (by decide) ⟨by decide, by decide⟩ (fun S10 I10 Q10 n10 => ?_)
  rw [mk9.2.1]
  refine z_putR G hin fl_X10_37 ⟨_, rfl, rfl⟩ fr_10_18 rfl (fun _ => rfl) (fun _ => rfl) dX10_init_84 (n10.so.ob mk9.1 (Nat.zero_le _) (by rw [mk9.2.1]; omega)) (fun P10 r10 => ?_)
  have mk10 := mk9.step n10 r10 rfl rfl rfl (by decide)
  have ext10 := ext9.tr ((n10.so.sub (Nat.le_refl _) (by rw [mk9.2.1]; omega)).tr (r10.so (Or.inr (Nat.le_refl _))))
  clear n10 r10 ext9 mk9
  refine z_aload_n G dX10_init_87 rfl ?_
  refine z_iconst G (v := 2) dX10_init_88 (by decide) ?_
  refine z_newb G (N := 2) aw_b dX10_init_89 (by decide) (by decide) ⟨by decide, by decide⟩ (fun S11 I11 Q11 n11 => ?_)
  rw [mk10.2.1]
  refine z_putR G hin fl_X10_40 ⟨_, rfl, rfl⟩ fr_10_19 rfl (fun _ => rfl) (fun _ => rfl) dX10_init_91 (n11.so.ob mk10.1 (Nat.zero_le _) (by rw [mk10.2.1]; omega)) (fun P11 r11 => ?_)
  have mk11 := mk10.step n11 r11 rfl rfl rfl (by decide)
  have ext11 := ext10.tr ((n11.so.sub (Nat.le_refl _) (by rw [mk10.2.1]; omega)).tr (r11.so (Or.inr (Nat.le_refl _))))
  clear n11 r11 ext10 mk10
  refine z_aload_n G dX10_init_94 rfl ?_
  refine z_bipush G (v := 8) dX10_init_95 (by decide) ?_
  refine z_newi G (N := 8) aw_i dX10_init_97 (by decide) (by decide) ⟨by decide, by decide⟩ (fun S12 I12 Q12 n12 => ?_)
  rw [mk11.2.1]
  refine z_putR G hin fl_X10_44 ⟨_, rfl, rfl⟩ fr_10_20 rfl (fun _ => rfl) (fun _ => rfl) dX10_init_99 (n12.so.ob mk11.1 (Nat.zero_le _) (by rw [mk11.2.1]; omega)) (fun P12 r12 => ?_)
  have mk12 := mk11.step n12 r12 rfl rfl rfl (by decide)
  have ext12 := ext11.tr ((n12.so.sub (Nat.le_refl _) (by rw [mk11.2.1]; omega)).tr (r12.so (Or.inr (Nat.le_refl _))))
  clear n12 r12 ext11 mk11
  refine z_aload_n G dX10_init_102 rfl ?_
  refine z_bipush G (v := 8) dX10_init_103 (by decide) ?_
  refine z_newi G (N := 8) aw_i dX10_init_105 (by decide) (by decide) ⟨by decide, by decide⟩ (fun S13 I13 Q13 n13 => ?_)
  rw [mk12.2.1]
  refine z_putR G hin fl_X10_47 ⟨_, rfl, rfl⟩ fr_10_21 rfl (fun _ => rfl) (fun _ => rfl) dX10_init_107 (n13.so.ob mk12.1 (Nat.zero_le _) (by rw [mk12.2.1]; omega)) (fun P13 r13 => ?_)
  have mk13 := mk12.step n13 r13 rfl rfl rfl (by decide)
  have ext13 := ext12.tr ((n13.so.sub (Nat.le_refl _) (by rw [mk12.2.1]; omega)).tr (r13.so (Or.inr (Nat.le_refl _))))
  clear n13 r13 ext12 mk12
  refine z_aload_n G dX10_init_110 rfl ?_
  refine z_iconst G (v := 4) dX10_init_111 (by decide) ?_
  refine z_newi G (N := 4) aw_i dX10_init_112 (by decide) (by decide) ⟨by decide, by decide⟩ (fun S14 I14 Q14 n14 => ?_)
  rw [mk13.2.1]
  refine z_putR G hin fl_X10_50 ⟨_, rfl, rfl⟩ fr_10_22 rfl (fun _ => rfl) (fun _ => rfl) dX10_init_114 (n14.so.ob mk13.1 (Nat.zero_le _) (by rw [mk13.2.1]; omega)) (fun P14 r14 => ?_)
  have mk14 := mk13.step n14 r14 rfl rfl rfl (by decide)
  have ext14 := ext13.tr ((n14.so.sub (Nat.le_refl _) (by rw [mk13.2.1]; omega)).tr (r14.so (Or.inr (Nat.le_refl _))))
  clear n14 r14 ext13 mk13
  refine z_aload_n G dX10_init_117 rfl ?_
  refine z_bipush G (v := 16) dX10_init_118 (by decide) ?_
  refine z_newi G (N := 16) aw_i dX10_init_120 (by decide) (by decide) ⟨by decide, by decide⟩ (fun S15 I15 Q15 n15 => ?_)
  rw [mk14.2.1]
  refine z_putR G hin fl_X10_53 ⟨_, rfl, rfl⟩ fr_10_23 rfl (fun _ => rfl) (fun _ => rfl) dX10_init_122 (n15.so.ob mk14.1 (Nat.zero_le _) (by rw [mk14.2.1]; omega)) (fun P15 r15 => ?_)
  have mk15 := mk14.step n15 r15 rfl rfl rfl (by decide)
  have ext15 := ext14.tr ((n15.so.sub (Nat.le_refl _) (by rw [mk14.2.1]; omega)).tr (r15.so (Or.inr (Nat.le_refl _))))
  have ob := mk15.1
  obtain ⟨p0, ar1, _⟩ := mk15.2.2.2 0 (by omega)
  have hMG := mk15.mg
  have loop : ∀ (r k : Nat) (u : Int32) (J : pmI), u.toInt = (k : Int) → k + r = 8 → (∀ q, q ≠ m + 1 → J q = I15 q) → (∀ i, i < k → J (m + 1) i = -1000000) → pmZ E C 127 [some (rr E m), some (.int u)] [] S15 J P15 15 4090 := by
    intro r
    induction r with
    | zero =>
      intro k u J hu hr f1 e1
      obtain rfl : k = 8 := by omega
      refine z_iload_n G dX10_init_127 rfl ?_
      refine z_bipush G (v := 8) dX10_init_128 (by decide) ?_
      refine z_icmp_ge G 147 dX10_init_130 (by decide) (fun _ => ?_) (fun c => absurd c (fun z => z (by simp (disch := omega) only [iN_lit, iN_add, iN_sub, iN_mul, iN_an, iN_le, iN_lt, iN_eq, iN_of hu] <;> omega)))
      exact z_vret G hq dX10_init_147 (h S15 J P15 mk15.2.1 (ext15.tr ⟨Nat.le_refl _, fun q _ hq9 => ⟨rfl, rfl, f1 q (by omega), rfl⟩⟩) hMG (fun j => by rw [f1 m (by omega)]; exact mk15.2.2.1 j) e1 (fun j => by rw [f1 _ (by omega)]; exact (mk15.2.2.2 1 (by omega)).2.2 j) (fun j => by rw [f1 _ (by omega)]; exact (mk15.2.2.2 5 (by omega)).2.2 j) (fun j => by rw [f1 _ (by omega)]; exact (mk15.2.2.2 10 (by omega)).2.2 j))
    | succ r ih =>
      intro k u J hu hr f1 e1
      refine z_iload_n G dX10_init_127 rfl ?_
      refine z_bipush G (v := 8) dX10_init_128 (by decide) ?_
      refine z_icmp_ge G 147 dX10_init_130 (by decide) (fun c => absurd c (by simp (disch := omega) only [iN_lit, iN_add, iN_sub, iN_mul, iN_an, iN_le, iN_lt, iN_eq, iN_of hu]; omega)) (fun _ => ?_)
      refine z_aload_n G dX10_init_133 rfl ?_
      refine z_getR G fl_X10_7 rfl dX10_init_134 ob p0 ?_
      refine z_iload_n G dX10_init_137 rfl ?_
      refine z_ldc G ct_X10_56 dX10_init_138 ?_
      refine z_iast G (k) dX10_init_140 ar1 (hu) (by (show k < 8); omega) ?_
      refine z_iinc G (v := 1) dX10_init_141 (by decide) rfl rfl ?_
      refine z_goto G 127 dX10_init_144 (by decide) ?_
      refine ih (k + 1) _ _ (by simp (disch := omega) only [iN_lit, iN_add, iN_sub, iN_mul, iN_an, iN_of hu]; exact iN_ti2 (by omega) (by omega)) (by omega) (fun q hq => by rw [va_ne' hq]; exact f1 q hq) (fun i hi => ?_)
      rw [va_at' rfl]
      by_cases hik : i = k
      · subst hik; exact va_at' rfl
      · rw [va_ne' hik]; exact e1 i (by omega)
  refine z_iconst G (v := 0) dX10_init_125 (by decide) ?_
  refine z_istore_n G dX10_init_126 (Nat.le_of_ble_eq_true rfl) rfl ?_
  exact z_cs (by omega) (by omega) (loop 8 0 0 _ rfl (by omega) (fun _ _ => rfl) (fun i hi => absurd hi (by omega)))
