set_option maxHeartbeats 1000000 in
set_option maxRecDepth 20000 in
theorem k_X10_found {E : pmE} {d : Nat} {S : pmS} {I : pmI} {P : pmP} {R : Option Value → pmS → pmI → pmP → Prop} {m : Nat} (hM : MG S P m) {f : Int32} (h : R (some (.int (-1000010 - f))) S (va_up I m (va_up (I m) 4 f)) P) : pmX E d 0 0 yX10_found [rr E m, .int f] S I P R := by
  refine pm_of (by decide) cd_X10_found (by decide) (by decide) (Nat.le_of_ble_eq_true rfl) ?_
  intro C G hq
  obtain ⟨g0, ⟨r0, r1, r2, r3, r4, r5, r6, r7, r8, r9, r10, r11, r12, r13, r14⟩, ⟨s1, s2, s3, s4, s5, s6, s7, s8, s9, s10, s11, s12, s13, s14, s15⟩⟩ := id hM
  refine z_aload_n G dX10_found_0 rfl ?_
  refine z_iload_n G dX10_found_1 rfl ?_
  refine z_putI G fl_X10_57 ft_10_4 rfl rfl rfl dX10_found_2 (by assumption) ?_
  refine z_ldc G ct_X10_61 dX10_found_5 ?_
  refine z_iload_n G dX10_found_7 rfl ?_
  refine z_isub G dX10_found_8 ?_
  exact z_iret G hq dX10_found_9 (h)
set_option maxHeartbeats 1000000 in
set_option maxRecDepth 20000 in
theorem k_X10_well {E : pmE} {d : Nat} {S : pmS} {I : pmI} {P : pmP} {R : Option Value → pmS → pmI → pmP → Prop} {m : Nat} (hM : MG S P m) {v : Int32} (h : R (some (.int v)) S (va_up I m (va_up (I m) 4 0)) P) : pmX E d 0 0 yX10_well [rr E m, .int v] S I P R := by
  refine pm_of (by decide) cd_X10_well (by decide) (by decide) (Nat.le_of_ble_eq_true rfl) ?_
  intro C G hq
  obtain ⟨g0, ⟨r0, r1, r2, r3, r4, r5, r6, r7, r8, r9, r10, r11, r12, r13, r14⟩, ⟨s1, s2, s3, s4, s5, s6, s7, s8, s9, s10, s11, s12, s13, s14, s15⟩⟩ := id hM
  refine z_aload_n G dX10_well_0 rfl ?_
  refine z_iconst G (v := 0) dX10_well_1 (by decide) ?_
  refine z_putI G fl_X10_57 ft_10_4 rfl rfl rfl dX10_well_2 (by assumption) ?_
  refine z_iload_n G dX10_well_5 rfl ?_
  exact z_iret G hq dX10_well_6 (h)
set_option maxHeartbeats 1000000 in
set_option maxRecDepth 20000 in
theorem k_X10_isRow {E : pmE} {d : Nat} {S : pmS} {I : pmI} {P : pmP} {R : Option Value → pmS → pmI → pmP → Prop} {r : Int32} (h1 : ∀ k : Nat, r.toInt = (k : Int) → k < 8 → R (some (.int 1)) S I P) (h0 : (¬ ∃ k : Nat, r.toInt = (k : Int) ∧ k < 8) → R (some (.int 0)) S I P) : pmX E (d + 1) 0 0 yX10_isRow [.int r] S I P R := by
  refine pm_of (by decide) cd_X10_isRow (by decide) (by decide) (Nat.le_of_ble_eq_true rfl) ?_
  intro C G hq
  refine z_iload_n G dX10_isRow_0 rfl ?_
  refine z_iconst G (v := 0) dX10_isRow_1 (by decide) ?_
  refine z_bipush G (v := 7) dX10_isRow_2 (by decide) ?_
  refine z_S G lk_X10_62 dX10_isRow_4 [_, _, _] rfl rfl rfl (Nat.le_of_ble_eq_true rfl) ⟨Nat.le_refl _, Nat.le_refl _⟩ ?_
  refine k_X10_in ?_ ?_
  · intro hc
    exact z_zret G hq dX10_isRow_7 rfl (h1 r.toInt.toNat (by simp only [ti_lt, ti_le, Int32.reduceToInt] at hc; omega) (by simp only [ti_lt, ti_le, Int32.reduceToInt] at hc; omega))
  · intro hc
    exact z_zret G hq dX10_isRow_7 rfl (h0 (fun ⟨k, q1, q2⟩ => hc (by simp only [ti_lt, ti_le, Int32.reduceToInt]; omega)))
set_option maxHeartbeats 1000000 in
set_option maxRecDepth 20000 in
theorem k_X10_isMissing {E : pmE} {d : Nat} {S : pmS} {I : pmI} {P : pmP} {R : Option Value → pmS → pmI → pmP → Prop} {m : Nat} (hM : MG S P m) {k : Nat} {r : Int32} (hr : r.toInt = (k : Int)) (hk : k < 8) (h1 : I (m + 1) k = -1000000 → R (some (.int 1)) S I P) (h0 : ¬ I (m + 1) k = -1000000 → R (some (.int 0)) S I P) : pmX E d 0 0 yX10_isMissing [rr E m, .int r] S I P R := by
  refine pm_of (by decide) cd_X10_isMissing (by decide) (by decide) (Nat.le_of_ble_eq_true rfl) ?_
  intro C G hq
  obtain ⟨g0, ⟨r0, r1, r2, r3, r4, r5, r6, r7, r8, r9, r10, r11, r12, r13, r14⟩, ⟨s1, s2, s3, s4, s5, s6, s7, s8, s9, s10, s11, s12, s13, s14, s15⟩⟩ := id hM
  refine z_aload_n G dX10_isMissing_0 rfl ?_
  refine z_getR G fl_X10_7 rfl dX10_isMissing_1 (by assumption) (by assumption) ?_
  refine z_iload_n G dX10_isMissing_4 rfl ?_
  refine z_iald G (k) dX10_isMissing_5 (by assumption) (hr) (by omega) ?_
  refine z_ldc G ct_X10_56 dX10_isMissing_6 ?_
  refine z_icmp_ne G 15 dX10_isMissing_8 (by decide) (fun b8 => ?_) (fun b8 => ?_)
  · refine z_iconst G (v := 0) dX10_isMissing_15 (by decide) ?_
    exact z_zret G hq dX10_isMissing_16 rfl (h0 b8)
  · refine z_iconst G (v := 1) dX10_isMissing_11 (by decide) ?_
    refine z_goto G 16 dX10_isMissing_12 (by decide) ?_
    exact z_zret G hq dX10_isMissing_16 rfl (h1 b8)
set_option maxHeartbeats 1000000 in
set_option maxRecDepth 20000 in
theorem k_X10_isWeb {E : pmE} {d : Nat} {S : pmS} {I : pmI} {P : pmP} {R : Option Value → pmS → pmI → pmP → Prop} {m : Nat} (hM : MG S P m) {n : Nat} (hn : (I (m + 6) 0).toInt = (n : Int)) (h1 : 0 < n → R (some (.int 1)) S I P) (h0 : ¬ 0 < n → R (some (.int 0)) S I P) : pmX E d 0 0 yX10_isWeb [rr E m] S I P R := by
  refine pm_of (by decide) cd_X10_isWeb (by decide) (by decide) (Nat.le_of_ble_eq_true rfl) ?_
  intro C G hq
  obtain ⟨g0, ⟨r0, r1, r2, r3, r4, r5, r6, r7, r8, r9, r10, r11, r12, r13, r14⟩, ⟨s1, s2, s3, s4, s5, s6, s7, s8, s9, s10, s11, s12, s13, s14, s15⟩⟩ := id hM
  refine z_aload_n G dX10_isWeb_0 rfl ?_
  refine z_getR G fl_X10_25 rfl dX10_isWeb_1 (by assumption) (by assumption) ?_
  refine z_iconst G (v := 0) dX10_isWeb_4 (by decide) ?_
  refine z_iald G (0) dX10_isWeb_5 (by assumption) (rfl) (by omega) ?_
  refine z_if_le G 13 dX10_isWeb_6 (by decide) (fun b6 => ?_) (fun b6 => ?_)
  · refine z_iconst G (v := 0) dX10_isWeb_13 (by decide) ?_
    exact z_zret G hq dX10_isWeb_14 rfl (h0 (by simp only [ti_lt, ti_le, Int32.reduceToInt, hn] at b6; omega))
  · refine z_iconst G (v := 1) dX10_isWeb_9 (by decide) ?_
    refine z_goto G 14 dX10_isWeb_10 (by decide) ?_
    exact z_zret G hq dX10_isWeb_14 rfl (h1 (by simp only [ti_lt, ti_le, Int32.reduceToInt, hn] at b6; omega))
set_option maxHeartbeats 1000000 in
set_option maxRecDepth 20000 in
theorem k_X10_isPage {E : pmE} {d : Nat} {S : pmS} {I : pmI} {P : pmP} {R : Option Value → pmS → pmI → pmP → Prop} {m : Nat} (hM : MG S P m) {n : Nat} {p : Int32} (hn : (I (m + 6) 0).toInt = (n : Int)) (h8 : n ≤ 8) (h1 : ∀ k : Nat, p.toInt = (k : Int) → k < n → R (some (.int 1)) S I P) (h0 : (¬ ∃ k : Nat, p.toInt = (k : Int) ∧ k < n) → R (some (.int 0)) S I P) : pmX E (d + 1) 0 0 yX10_isPage [rr E m, .int p] S I P R := by
  refine pm_of (by decide) cd_X10_isPage (by decide) (by decide) (Nat.le_of_ble_eq_true rfl) ?_
  intro C G hq
  obtain ⟨g0, ⟨r0, r1, r2, r3, r4, r5, r6, r7, r8, r9, r10, r11, r12, r13, r14⟩, ⟨s1, s2, s3, s4, s5, s6, s7, s8, s9, s10, s11, s12, s13, s14, s15⟩⟩ := id hM
  refine z_iload_n G dX10_isPage_0 rfl ?_
  refine z_iconst G (v := 0) dX10_isPage_1 (by decide) ?_
  refine z_aload_n G dX10_isPage_2 rfl ?_
  refine z_getR G fl_X10_25 rfl dX10_isPage_3 (by assumption) (by assumption) ?_
  refine z_iconst G (v := 0) dX10_isPage_6 (by decide) ?_
  refine z_iald G (0) dX10_isPage_7 (by assumption) (rfl) (by omega) ?_
  refine z_iconst G (v := 1) dX10_isPage_8 (by decide) ?_
  refine z_isub G dX10_isPage_9 ?_
  refine z_S G lk_X10_62 dX10_isPage_10 [_, _, _] rfl rfl rfl (Nat.le_of_ble_eq_true rfl) ⟨Nat.le_refl _, Nat.le_refl _⟩ ?_
  refine k_X10_in ?_ ?_
  · intro hc
    exact z_zret G hq dX10_isPage_13 rfl (h1 p.toInt.toNat (by simp only [ti_lt, ti_le, Int32.reduceToInt, ti_sub, hn] at hc; omega) (by simp only [ti_lt, ti_le, Int32.reduceToInt, ti_sub, hn] at hc; omega))
  · intro hc
    exact z_zret G hq dX10_isPage_13 rfl (h0 (fun ⟨k, q1, q2⟩ => hc (by simp only [ti_lt, ti_le, Int32.reduceToInt, ti_sub, hn]; omega)))
set_option maxHeartbeats 1000000 in
set_option maxRecDepth 20000 in
theorem k_X10_isTab {E : pmE} {d : Nat} {S : pmS} {I : pmI} {P : pmP} {R : Option Value → pmS → pmI → pmP → Prop} {m : Nat} (hM : MG S P m) {T : Nat} {p : Int32} (hn : (I (m + 6) 1).toInt = (T : Int)) (h8 : T ≤ 8) (h1 : ∀ k : Nat, p.toInt = (k : Int) → k < T → R (some (.int 1)) S I P) (h0 : (¬ ∃ k : Nat, p.toInt = (k : Int) ∧ k < T) → R (some (.int 0)) S I P) : pmX E (d + 1) 0 0 yX10_isTab [rr E m, .int p] S I P R := by
  refine pm_of (by decide) cd_X10_isTab (by decide) (by decide) (Nat.le_of_ble_eq_true rfl) ?_
  intro C G hq
  obtain ⟨g0, ⟨r0, r1, r2, r3, r4, r5, r6, r7, r8, r9, r10, r11, r12, r13, r14⟩, ⟨s1, s2, s3, s4, s5, s6, s7, s8, s9, s10, s11, s12, s13, s14, s15⟩⟩ := id hM
  refine z_iload_n G dX10_isTab_0 rfl ?_
  refine z_iconst G (v := 0) dX10_isTab_1 (by decide) ?_
  refine z_aload_n G dX10_isTab_2 rfl ?_
  refine z_getR G fl_X10_25 rfl dX10_isTab_3 (by assumption) (by assumption) ?_
  refine z_iconst G (v := 1) dX10_isTab_6 (by decide) ?_
  refine z_iald G (1) dX10_isTab_7 (by assumption) (rfl) (by omega) ?_
  refine z_iconst G (v := 1) dX10_isTab_8 (by decide) ?_
  refine z_isub G dX10_isTab_9 ?_
  refine z_S G lk_X10_62 dX10_isTab_10 [_, _, _] rfl rfl rfl (Nat.le_of_ble_eq_true rfl) ⟨Nat.le_refl _, Nat.le_refl _⟩ ?_
  refine k_X10_in ?_ ?_
  · intro hc
    exact z_zret G hq dX10_isTab_13 rfl (h1 p.toInt.toNat (by simp only [ti_lt, ti_le, Int32.reduceToInt, ti_sub, hn] at hc; omega) (by simp only [ti_lt, ti_le, Int32.reduceToInt, ti_sub, hn] at hc; omega))
  · intro hc
    exact z_zret G hq dX10_isTab_13 rfl (h0 (fun ⟨k, q1, q2⟩ => hc (by simp only [ti_lt, ti_le, Int32.reduceToInt, ti_sub, hn]; omega)))
set_option maxHeartbeats 1000000 in
set_option maxRecDepth 20000 in
theorem k_X10_notes {E : pmE} {d : Nat} {S : pmS} {I : pmI} {P : pmP} {R : Option Value → pmS → pmI → pmP → Prop} {m : Nat} (hM : MG S P m) {a : Nat} (ha : (I m 17).toInt = (a : Int)) (ha24 : a ≤ 24) (h : ∀ I', (∀ k, k ≠ m → k ≠ m + 9 → I' k = I k) → (∀ j, j ≠ 17 → I' m j = I m j) → I' m 17 = iN (noteA a) → I' (m + 9) = noteP (I (m + 9)) (I (m + 6)) a → R none S I' P) : pmX E (d + 1) 0 0 yX10_notes [rr E m] S I P R := by
  refine pm_of (by decide) cd_X10_notes (by decide) (by decide) (Nat.le_of_ble_eq_true rfl) ?_
  intro C G hq
  obtain ⟨g0, ⟨r0, r1, r2, r3, r4, r5, r6, r7, r8, r9, r10, r11, r12, r13, r14⟩, ⟨s1, s2, s3, s4, s5, s6, s7, s8, s9, s10, s11, s12, s13, s14, s15⟩⟩ := id hM
  have tail : ∀ (J : pmI) (b : Nat), b ≤ 23 → (J m 17).toInt = (b : Int) → (∀ k, k ≠ m → k ≠ m + 9 → J k = I k) → (∀ j, j ≠ 17 → J m j = I m j) → iN (b + 1) = iN (noteA a) → va_cpy (I (m + 6)) (J (m + 9)) 0 (124 * b) 124 = noteP (I (m + 9)) (I (m + 6)) a → ∀ x : Option Value, pmZ E C 49 [some (rr E m), x] [] S J P 0 0 := by
    intro J b hb hJ f1 f2 e1 e2 x
    refine z_aload_n G dX10_notes_49 rfl ?_
    refine z_getR G fl_X10_25 rfl dX10_notes_50 (by assumption) (by assumption) ?_
    refine z_iconst G (v := 0) dX10_notes_53 (by decide) ?_
    refine z_aload_n G dX10_notes_54 rfl ?_
    refine z_getR G fl_X10_34 rfl dX10_notes_55 (by assumption) (by assumption) ?_
    refine z_bipush G (v := 124) dX10_notes_58 (by decide) ?_
    refine z_aload_n G dX10_notes_60 rfl ?_
    refine z_getI G fl_X10_150 rfl dX10_notes_61 (by assumption) ?_
    refine z_imul G dX10_notes_64 ?_
    refine z_S G lk_X10_146 dX10_notes_65 [_, _, _, _] rfl rfl rfl (Nat.le_of_ble_eq_true rfl) ⟨Nat.le_refl _, Nat.le_refl _⟩ ?_
    refine k_X10_copies s6 s9 (by omega) (f := 0) (g := 124 * b) rfl (by simp (disch := omega) only [iN_lit, iN_add, iN_sub, iN_mul, iN_an, iN_of hJ]; exact iN_ti2 (by omega) (by omega)) (by omega) (by omega) (by omega) ?_
    refine z_aload_n G dX10_notes_68 rfl ?_
    refine z_dup G dX10_notes_69 rfl ?_
    refine z_getI G fl_X10_150 rfl dX10_notes_70 (by assumption) ?_
    rw [va_ne' (by omega)]
    refine z_iconst G (v := 1) dX10_notes_73 (by decide) ?_
    refine z_iadd G dX10_notes_74 ?_
    refine z_top (y := iN (b + 1)) (by simp (disch := omega) only [iN_lit, iN_add, iN_sub, iN_mul, iN_an, iN_of hJ] <;> exact congrArg iN (by omega)) ?_
    refine z_putI G fl_X10_150 ft_10_17 rfl rfl rfl dX10_notes_75 (by assumption) ?_
    exact z_vret G hq dX10_notes_78 (h _ (fun k k1 k2 => by rw [va_ne' k1, va_ne' k2]; exact f1 k k1 k2) (fun j hj => by rw [va_at' rfl, va_ne' hj, va_ne' (by omega)]; exact f2 j hj) (by rw [va_at' rfl, va_at' rfl]; exact e1) (by rw [va_ne' (by omega), va_at' rfl, f1 _ (by omega) (by omega)]; exact e2))
  have loop : ∀ (r k : Nat) (x : Int32), x.toInt = (k : Int) → k + r = 2852 → a = 24 → pmZ E C 11 [some (rr E m), some (.int x)] [] S (va_up I (m + 9) (va_cpy (I (m + 9)) (I (m + 9)) 124 0 k)) P 0 0 := by
    intro r
    induction r with
    | zero =>
      intro k x hx hr h24
      obtain rfl : k = 2852 := by omega
      refine z_iload_n G dX10_notes_11 rfl ?_
      refine z_sipush G (v := 2852) dX10_notes_12 (by decide) ?_
      refine z_icmp_ge G 39 dX10_notes_15 (by decide) (fun _ => ?_) (fun c => absurd c (fun z => z (by simp (disch := omega) only [iN_lit, iN_add, iN_sub, iN_mul, iN_an, iN_le, iN_lt, iN_eq, iN_of hx] <;> omega)))
      refine z_aload_n G dX10_notes_39 rfl ?_
      refine z_dup G dX10_notes_40 rfl ?_
      refine z_getI G fl_X10_150 rfl dX10_notes_41 (by assumption) ?_
      rw [va_ne' (by omega)]
      refine z_iconst G (v := 1) dX10_notes_44 (by decide) ?_
      refine z_isub G dX10_notes_45 ?_
      refine z_top (y := iN 23) (by rw [iN_of ha, h24]; rfl) ?_
      refine z_putI G fl_X10_150 ft_10_17 rfl rfl rfl dX10_notes_46 (by assumption) ?_
      exact tail _ 23 (by omega) (by rw [va_at' rfl, va_at' rfl]; rfl) (fun k k1 k2 => by rw [va_ne' k1, va_ne' k2]) (fun j hj => by rw [va_at' rfl, va_ne' hj, va_ne' (by omega)]) (by rw [noteA, if_pos h24]) (by rw [va_ne' (by omega), va_at' rfl, noteP, if_pos h24]) _
    | succ r ih =>
      intro k x hx hr h24
      refine z_iload_n G dX10_notes_11 rfl ?_
      refine z_sipush G (v := 2852) dX10_notes_12 (by decide) ?_
      refine z_icmp_ge G 39 dX10_notes_15 (by decide) (fun c => absurd c (by simp (disch := omega) only [iN_lit, iN_add, iN_sub, iN_mul, iN_an, iN_le, iN_lt, iN_eq, iN_of hx]; omega)) (fun _ => ?_)
      refine z_aload_n G dX10_notes_18 rfl ?_
      refine z_getR G fl_X10_34 rfl dX10_notes_19 (by assumption) (by assumption) ?_
      refine z_iload_n G dX10_notes_22 rfl ?_
      refine z_aload_n G dX10_notes_23 rfl ?_
      refine z_getR G fl_X10_34 rfl dX10_notes_24 (by assumption) (by assumption) ?_
      refine z_iload_n G dX10_notes_27 rfl ?_
      refine z_bipush G (v := 124) dX10_notes_28 (by decide) ?_
      refine z_iadd G dX10_notes_30 ?_
      refine z_iald G (124 + k) dX10_notes_31 (by assumption) (by simp (disch := omega) only [iN_lit, iN_add, iN_sub, iN_mul, iN_an, iN_of hx]; exact iN_ti2 (by omega) (by omega)) (by omega) ?_
      refine z_iast G (0 + k) dX10_notes_32 (by assumption) (by simp (disch := omega) only [iN_lit, iN_add, iN_sub, iN_mul, iN_an, iN_of hx]; exact iN_ti2 (by omega) (by omega)) (by omega) ?_
      refine z_iinc G (v := 1) dX10_notes_33 (by decide) rfl rfl ?_
      refine z_goto G 11 dX10_notes_36 (by decide) ?_
      refine z_eq rfl rfl rfl ?_ rfl (ih (k + 1) _ (by simp (disch := omega) only [iN_lit, iN_add, iN_sub, iN_mul, iN_an, iN_of hx]; exact iN_ti2 (by omega) (by omega)) (by omega) h24)
      rw [va_up_self, va_up_up, cpy_off (by omega), cpy_step]
  refine z_aload_n G dX10_notes_0 rfl ?_
  refine z_getI G fl_X10_150 rfl dX10_notes_1 (by assumption) ?_
  refine z_bipush G (v := 24) dX10_notes_4 (by decide) ?_
  refine z_icmp_ne G 49 dX10_notes_6 (by decide) (fun b6 => ?_) (fun b6 => ?_)
  · have h24 : ¬ a = 24 := fun q => b6 (by rw [iN_of ha, q]; rfl)
    exact tail I a (by omega) ha (fun _ _ _ => rfl) (fun _ _ => rfl) (by rw [noteA, if_neg h24]) (by rw [noteP, if_neg h24]) _
  · refine z_iconst G (v := 0) dX10_notes_9 (by decide) ?_
    refine z_istore_n G dX10_notes_10 (Nat.le_of_ble_eq_true rfl) rfl ?_
    have h24 : a = 24 := by have := congrArg Int32.toInt b6; rw [ha] at this; simp only [Int32.reduceToInt] at this; omega
    refine z_eq rfl rfl rfl ?_ rfl (loop 2852 0 0 rfl (by omega) h24)
    rw [cpy_0, va_up_id]
