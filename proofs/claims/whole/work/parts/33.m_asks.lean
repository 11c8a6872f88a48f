set_option maxHeartbeats 1000000 in
set_option maxRecDepth 20000 in
theorem k_X10_undo {E : pmE} {d : Nat} {S : pmS} {I : pmI} {P : pmP} {R : Option Value → pmS → pmI → pmP → Prop} {m : Nat} (hM : MG S P m) {a : Nat} (ha : (I m 17).toInt = (a : Int)) (ha24 : a ≤ 24) (hs : a = 0 → R (some (.int (-1000002))) S I P) (hok : 1 ≤ a → ∀ I', (∀ k, k ≠ m → k ≠ m + 6 → I' k = I k) → (∀ j, j ≠ 17 → I' m j = I m j) → I' m 17 = iN (a - 1) → I' (m + 6) = va_cpy (I (m + 9)) (I (m + 6)) (124 * (a - 1)) 0 124 → R (some (.int (iN (a - 1)))) S I' P) : pmX E (d + 1) 0 0 yX10_undo [rr E m] S I P R := by
  refine pm_of (by decide) cd_X10_undo (by decide) (by decide) (Nat.le_of_ble_eq_true rfl) ?_
  intro C G hq
  obtain ⟨g0, ⟨r0, r1, r2, r3, r4, r5, r6, r7, r8, r9, r10, r11, r12, r13, r14⟩, ⟨s1, s2, s3, s4, s5, s6, s7, s8, s9, s10, s11, s12, s13, s14, s15⟩⟩ := id hM
  refine z_aload_n G dX10_undo_0 rfl ?_
  refine z_getI G fl_X10_150 rfl dX10_undo_1 (by assumption) ?_
  refine z_if_ne G 10 dX10_undo_4 (by decide) (fun b4 => ?_) (fun b4 => ?_)
  · have ha1 : 1 ≤ a := by have : ¬ a = 0 := fun z => b4 (by rw [iN_of ha, z]; rfl); omega
    refine z_aload_n G dX10_undo_10 rfl ?_
    refine z_dup G dX10_undo_11 rfl ?_
    refine z_getI G fl_X10_150 rfl dX10_undo_12 (by assumption) ?_
    refine z_iconst G (v := 1) dX10_undo_15 (by decide) ?_
    refine z_isub G dX10_undo_16 ?_
    refine z_top (y := iN (a - 1)) (by simp (disch := omega) only [iN_lit, iN_add, iN_sub, iN_mul, iN_an, iN_of ha] <;> exact congrArg iN (by omega)) ?_
    refine z_putI G fl_X10_150 ft_10_17 rfl rfl rfl dX10_undo_17 (by assumption) ?_
    refine z_aload_n G dX10_undo_20 rfl ?_
    refine z_getR G fl_X10_34 rfl dX10_undo_21 (by assumption) (by assumption) ?_
    refine z_bipush G (v := 124) dX10_undo_24 (by decide) ?_
    refine z_aload_n G dX10_undo_26 rfl ?_
    refine z_getI G fl_X10_150 rfl dX10_undo_27 (by assumption) ?_
    try simp (disch := omega) only [va_at', va_ne', va_up_up]
    refine z_imul G dX10_undo_30 ?_
    refine z_aload_n G dX10_undo_31 rfl ?_
    refine z_getR G fl_X10_25 rfl dX10_undo_32 (by assumption) (by assumption) ?_
    refine z_iconst G (v := 0) dX10_undo_35 (by decide) ?_
    refine z_S G lk_X10_146 dX10_undo_36 [_, _, _, _] rfl rfl rfl (Nat.le_of_ble_eq_true rfl) ⟨Nat.le_refl _, Nat.le_refl _⟩ ?_
    refine k_X10_copies s9 s6 (by omega) (f := 124 * (a - 1)) (g := 0) (by simp (disch := omega) only [iN_lit, iN_add, iN_sub, iN_mul, iN_an]; exact iN_ti2 (by omega) (by omega)) rfl (by omega) (by omega) (by omega) ?_
    try simp (disch := omega) only [va_at', va_ne', va_up_up]
    refine z_aload_n G dX10_undo_39 rfl ?_
    refine z_getI G fl_X10_150 rfl dX10_undo_40 (by assumption) ?_
    try simp (disch := omega) only [va_at', va_ne', va_up_up]
    exact z_iret G hq dX10_undo_43 (hok ha1 _ (fun k k1 k2 => by simp (disch := omega) only [va_at', va_ne', va_up_up]) (fun j hj => by simp (disch := omega) only [va_at', va_ne', va_up_up]) (by simp (disch := omega) only [va_at', va_ne', va_up_up]) (by simp (disch := omega) only [va_at', va_ne', va_up_up]))
  · refine z_ldc G ct_X10_182 dX10_undo_7 ?_
    exact z_iret G hq dX10_undo_9 (hs (by have := congrArg Int32.toInt b4; rw [ha] at this; simp only [Int32.reduceToInt] at this; omega))
set_option maxHeartbeats 1000000 in
set_option maxRecDepth 20000 in
theorem k_X10_image {E : pmE} {d : Nat} {S : pmS} {I : pmI} {P : pmP} {R : Option Value → pmS → pmI → pmP → Prop} {m : Nat} (hM : MG S P m) {n : Nat} {k : Int32} (hn : (I (m + 6) 0).toInt = (n : Int)) (hb : (¬ ∃ q : Nat, k.toInt = (q : Int) ∧ q < 2) → R (some (.int (-1000001))) S I P) (hs : ∀ q : Nat, k.toInt = (q : Int) → q < 2 → ¬ 0 < n → R (some (.int (-1000002))) S I P) (hok : ∀ q : Nat, k.toInt = (q : Int) → q < 2 → 0 < n → R (some (.int 1)) S (va_up (va_up I (m + 10) (va_cpy (I (m + 6)) (I (m + 10)) 0 (124 * q) 124)) (m + 11) (va_up (I (m + 11)) q 1)) P) : pmX E (d + 2) 0 0 yX10_image [rr E m, .int k] S I P R := by
  refine pm_of (by decide) cd_X10_image (by decide) (by decide) (Nat.le_of_ble_eq_true rfl) ?_
  intro C G hq
  obtain ⟨g0, ⟨r0, r1, r2, r3, r4, r5, r6, r7, r8, r9, r10, r11, r12, r13, r14⟩, ⟨s1, s2, s3, s4, s5, s6, s7, s8, s9, s10, s11, s12, s13, s14, s15⟩⟩ := id hM
  refine z_iload_n G dX10_image_0 rfl ?_
  refine z_iconst G (v := 0) dX10_image_1 (by decide) ?_
  refine z_iconst G (v := 1) dX10_image_2 (by decide) ?_
  refine z_S G lk_X10_62 dX10_image_3 [_, _, _] rfl rfl rfl (Nat.le_of_ble_eq_true rfl) ⟨Nat.le_refl _, Nat.le_refl _⟩ ?_
  refine k_X10_in ?_ ?_
  · intro hin
    refine z_if_ne G 12 dX10_image_6 (by decide) (fun _ => ?_) (fun c => absurd c (by decide))
    obtain ⟨q, hq1, hq2⟩ : ∃ q : Nat, k.toInt = (q : Int) ∧ q < 2 := ⟨k.toInt.toNat, by simp only [ti_lt, ti_le, Int32.reduceToInt] at hin; omega, by simp only [ti_lt, ti_le, Int32.reduceToInt] at hin; omega⟩
    refine z_aload_n G dX10_image_12 rfl ?_
    refine z_V G lk_X10_179 dX10_image_13 [] rfl rfl rfl (Nat.le_of_ble_eq_true rfl) ⟨Nat.le_refl _, Nat.le_refl _⟩ (by assumption) ?_
    refine k_X10_isWeb hM hn ?_ ?_
    · intro hw
      refine z_if_ne G 22 dX10_image_16 (by decide) (fun _ => ?_) (fun c => absurd c (by decide))
      refine z_aload_n G dX10_image_22 rfl ?_
      refine z_getR G fl_X10_25 rfl dX10_image_23 (by assumption) (by assumption) ?_
      refine z_iconst G (v := 0) dX10_image_26 (by decide) ?_
      refine z_aload_n G dX10_image_27 rfl ?_
      refine z_getR G fl_X10_37 rfl dX10_image_28 (by assumption) (by assumption) ?_
      refine z_bipush G (v := 124) dX10_image_31 (by decide) ?_
      refine z_iload_n G dX10_image_33 rfl ?_
      refine z_imul G dX10_image_34 ?_
      refine z_S G lk_X10_146 dX10_image_35 [_, _, _, _] rfl rfl rfl (Nat.le_of_ble_eq_true rfl) ⟨Nat.le_refl _, Nat.le_refl _⟩ ?_
      refine k_X10_copies s6 s10 (by omega) (f := 0) (g := 124 * q) rfl (by simp (disch := omega) only [iN_lit, iN_add, iN_sub, iN_mul, iN_an, iN_of hq1]; exact iN_ti2 (by omega) (by omega)) (by omega) (by omega) (by omega) ?_
      refine z_aload_n G dX10_image_38 rfl ?_
      refine z_getR G fl_X10_40 rfl dX10_image_39 (by assumption) (by assumption) ?_
      refine z_iload_n G dX10_image_42 rfl ?_
      refine z_iconst G (v := 1) dX10_image_43 (by decide) ?_
      refine z_bast G (q) dX10_image_44 (by assumption) (hq1) (by omega) rfl ?_
      refine z_iconst G (v := 1) dX10_image_45 (by decide) ?_
      exact z_iret G hq dX10_image_46 (by have := hok q hq1 hq2 hw; rw [va_ne' (by omega)]; exact this)
    · intro hw
      refine z_if_ne G 22 dX10_image_16 (by decide) (fun c => absurd c (by decide)) (fun _ => ?_)
      refine z_ldc G ct_X10_182 dX10_image_19 ?_
      exact z_iret G hq dX10_image_21 (hs q hq1 hq2 hw)
  · intro hin
    refine z_if_ne G 12 dX10_image_6 (by decide) (fun c => absurd c (by decide)) (fun _ => ?_)
    refine z_ldc G ct_X10_70 dX10_image_9 ?_
    exact z_iret G hq dX10_image_11 (hb (fun ⟨k, q1, q2⟩ => hin (by simp only [ti_lt, ti_le, Int32.reduceToInt]; omega)))
set_option maxHeartbeats 1000000 in
set_option maxRecDepth 20000 in
theorem k_X10_restore {E : pmE} {d : Nat} {S : pmS} {I : pmI} {P : pmP} {R : Option Value → pmS → pmI → pmP → Prop} {m : Nat} (hM : MG S P m) {k : Int32} (hb : (¬ ∃ q : Nat, k.toInt = (q : Int) ∧ q < 2) → R (some (.int (-1000001))) S I P) (hs : ∀ q : Nat, k.toInt = (q : Int) → q < 2 → I (m + 11) q = 0 → R (some (.int (-1000002))) S I P) (hok : ∀ q : Nat, k.toInt = (q : Int) → q < 2 → ¬ I (m + 11) q = 0 → R (some (.int 1)) S (va_up (va_up I (m + 6) (va_cpy (I (m + 10)) (I (m + 6)) (124 * q) 0 124)) m (va_up (I m) 17 0)) P) : pmX E (d + 1) 0 0 yX10_restore [rr E m, .int k] S I P R := by
  refine pm_of (by decide) cd_X10_restore (by decide) (by decide) (Nat.le_of_ble_eq_true rfl) ?_
  intro C G hq
  obtain ⟨g0, ⟨r0, r1, r2, r3, r4, r5, r6, r7, r8, r9, r10, r11, r12, r13, r14⟩, ⟨s1, s2, s3, s4, s5, s6, s7, s8, s9, s10, s11, s12, s13, s14, s15⟩⟩ := id hM
  refine z_iload_n G dX10_restore_0 rfl ?_
  refine z_iconst G (v := 0) dX10_restore_1 (by decide) ?_
  refine z_iconst G (v := 1) dX10_restore_2 (by decide) ?_
  refine z_S G lk_X10_62 dX10_restore_3 [_, _, _] rfl rfl rfl (Nat.le_of_ble_eq_true rfl) ⟨Nat.le_refl _, Nat.le_refl _⟩ ?_
  refine k_X10_in ?_ ?_
  · intro hin
    refine z_if_ne G 12 dX10_restore_6 (by decide) (fun _ => ?_) (fun c => absurd c (by decide))
    obtain ⟨q, hq1, hq2⟩ : ∃ q : Nat, k.toInt = (q : Int) ∧ q < 2 := ⟨k.toInt.toNat, by simp only [ti_lt, ti_le, Int32.reduceToInt] at hin; omega, by simp only [ti_lt, ti_le, Int32.reduceToInt] at hin; omega⟩
    refine z_aload_n G dX10_restore_12 rfl ?_
    refine z_getR G fl_X10_40 rfl dX10_restore_13 (by assumption) (by assumption) ?_
    refine z_iload_n G dX10_restore_16 rfl ?_
    refine z_bald G (q) dX10_restore_17 (by assumption) (hq1) (by omega) ?_
    refine z_if_ne G 24 dX10_restore_18 (by decide) (fun b18 => ?_) (fun b18 => ?_)
    · refine z_aload_n G dX10_restore_24 rfl ?_
      refine z_getR G fl_X10_37 rfl dX10_restore_25 (by assumption) (by assumption) ?_
      refine z_bipush G (v := 124) dX10_restore_28 (by decide) ?_
      refine z_iload_n G dX10_restore_30 rfl ?_
      refine z_imul G dX10_restore_31 ?_
      refine z_aload_n G dX10_restore_32 rfl ?_
      refine z_getR G fl_X10_25 rfl dX10_restore_33 (by assumption) (by assumption) ?_
      refine z_iconst G (v := 0) dX10_restore_36 (by decide) ?_
      refine z_S G lk_X10_146 dX10_restore_37 [_, _, _, _] rfl rfl rfl (Nat.le_of_ble_eq_true rfl) ⟨Nat.le_refl _, Nat.le_refl _⟩ ?_
      refine k_X10_copies s10 s6 (by omega) (f := 124 * q) (g := 0) (by simp (disch := omega) only [iN_lit, iN_add, iN_sub, iN_mul, iN_an, iN_of hq1]; exact iN_ti2 (by omega) (by omega)) rfl (by omega) (by omega) (by omega) ?_
      refine z_aload_n G dX10_restore_40 rfl ?_
      refine z_iconst G (v := 0) dX10_restore_41 (by decide) ?_
      refine z_putI G fl_X10_150 ft_10_17 rfl rfl rfl dX10_restore_42 (by assumption) ?_
      refine z_iconst G (v := 1) dX10_restore_45 (by decide) ?_
      exact z_iret G hq dX10_restore_46 (by have := hok q hq1 hq2 b18; rw [va_ne' (by omega)]; exact this)
    · refine z_ldc G ct_X10_182 dX10_restore_21 ?_
      exact z_iret G hq dX10_restore_23 (hs q hq1 hq2 b18)
  · intro hin
    refine z_if_ne G 12 dX10_restore_6 (by decide) (fun c => absurd c (by decide)) (fun _ => ?_)
    refine z_ldc G ct_X10_70 dX10_restore_9 ?_
    exact z_iret G hq dX10_restore_11 (hb (fun ⟨k, q1, q2⟩ => hin (by simp only [ti_lt, ti_le, Int32.reduceToInt]; omega)))
set_option maxHeartbeats 1000000 in
set_option maxRecDepth 20000 in
theorem k_X10_kindIn {E : pmE} {d : Nat} {S : pmS} {I : pmI} {P : pmP} {R : Option Value → pmS → pmI → pmP → Prop} {m : Nat} (hM : MG S P m) {i : Nat} {k : Int32} (hi : k.toInt = (i : Int)) (h5 : i < 5) (h : R (some (.int (I (m + 6) (44 + 10 * i)))) S I P) : pmX E d 0 0 yX10_kindIn [rr E m, .int k] S I P R := by
  refine pm_of (by decide) cd_X10_kindIn (by decide) (by decide) (Nat.le_of_ble_eq_true rfl) ?_
  intro C G hq
  obtain ⟨g0, ⟨r0, r1, r2, r3, r4, r5, r6, r7, r8, r9, r10, r11, r12, r13, r14⟩, ⟨s1, s2, s3, s4, s5, s6, s7, s8, s9, s10, s11, s12, s13, s14, s15⟩⟩ := id hM
  refine z_aload_n G dX10_kindIn_0 rfl ?_
  refine z_getR G fl_X10_25 rfl dX10_kindIn_1 (by assumption) (by assumption) ?_
  refine z_bipush G (v := 44) dX10_kindIn_4 (by decide) ?_
  refine z_bipush G (v := 10) dX10_kindIn_6 (by decide) ?_
  refine z_iload_n G dX10_kindIn_8 rfl ?_
  refine z_imul G dX10_kindIn_9 ?_
  refine z_iadd G dX10_kindIn_10 ?_
  refine z_iald G (44 + 10 * i) dX10_kindIn_11 (by assumption) (by simp (disch := omega) only [iN_lit, iN_add, iN_sub, iN_mul, iN_an, iN_of hi]; exact iN_ti2 (by omega) (by omega)) (by omega) ?_
  exact z_iret G hq dX10_kindIn_12 (h)
set_option maxHeartbeats 1000000 in
set_option maxRecDepth 20000 in
theorem k_X10_kind {E : pmE} {d : Nat} {S : pmS} {I : pmI} {P : pmP} {R : Option Value → pmS → pmI → pmP → Prop} {m : Nat} (hM : MG S P m) {T : Nat} (hT : (I (m + 6) 1).toInt = (T : Int)) (hT5 : T ≤ 5) {tab : Int32} (hb : (¬ ∃ i : Nat, tab.toInt = (i : Int) ∧ i < T) → R (some (.int (-1000001))) S I P) (hok : ∀ i : Nat, tab.toInt = (i : Int) → i < T → R (some (.int (I (m + 6) (44 + 10 * i)))) S I P) : pmX E (d + 2) 0 0 yX10_kind [rr E m, .int tab] S I P R := by
  refine pm_of (by decide) cd_X10_kind (by decide) (by decide) (Nat.le_of_ble_eq_true rfl) ?_
  intro C G hq
  obtain ⟨g0, ⟨r0, r1, r2, r3, r4, r5, r6, r7, r8, r9, r10, r11, r12, r13, r14⟩, ⟨s1, s2, s3, s4, s5, s6, s7, s8, s9, s10, s11, s12, s13, s14, s15⟩⟩ := id hM
  refine z_aload_n G dX10_kind_0 rfl ?_
  refine z_iload_n G dX10_kind_1 rfl ?_
  refine z_V G lk_X10_202 dX10_kind_2 [_] rfl rfl rfl (Nat.le_of_ble_eq_true rfl) ⟨Nat.le_refl _, Nat.le_refl _⟩ (by assumption) ?_
  refine k_X10_isTab hM hT (by omega) ?_ ?_
  · intro i hi hiT
    refine z_if_eq G 16 dX10_kind_5 (by decide) (fun c => absurd c (by decide)) (fun _ => ?_)
    refine z_aload_n G dX10_kind_8 rfl ?_
    refine z_iload_n G dX10_kind_9 rfl ?_
    refine z_V G lk_X10_242 dX10_kind_10 [_] rfl rfl rfl (Nat.le_of_ble_eq_true rfl) ⟨Nat.le_refl _, Nat.le_refl _⟩ (by assumption) ?_
    refine k_X10_kindIn hM hi (by omega) ?_
    refine z_goto G 18 dX10_kind_13 (by decide) ?_
    exact z_iret G hq dX10_kind_18 (hok i hi hiT)
  · intro hno
    refine z_if_eq G 16 dX10_kind_5 (by decide) (fun _ => ?_) (fun c => absurd c (by decide))
    refine z_ldc G ct_X10_70 dX10_kind_16 ?_
    exact z_iret G hq dX10_kind_18 (hb hno)
set_option maxHeartbeats 1000000 in
set_option maxRecDepth 20000 in
theorem k_X10_as {E : pmE} {d : Nat} {S : pmS} {I : pmI} {P : pmP} {R : Option Value → pmS → pmI → pmP → Prop} {m : Nat} (hM : MG S P m) {T : Nat} (hT : (I (m + 6) 1).toInt = (T : Int)) (hT5 : T ≤ 5) {tab kind : Int32} (hb : (¬ ∃ i k : Nat, tab.toInt = (i : Int) ∧ i < T ∧ kind.toInt = (k : Int) ∧ k ≤ 5) → R (some (.int (-1000001))) S I P) (hok : ∀ i k : Nat, tab.toInt = (i : Int) → i < T → kind.toInt = (k : Int) → k ≤ 5 → isK (I (m + 6) (44 + 10 * i)) kind → R (some (.int tab)) S (va_up I m (va_up (I m) 4 0)) P) (hno : ∀ i k : Nat, tab.toInt = (i : Int) → i < T → kind.toInt = (k : Int) → k ≤ 5 → ¬ isK (I (m + 6) (44 + 10 * i)) kind → R (some (.int (-1000010 - 3))) S (va_up I m (va_up (I m) 4 3)) P) : pmX E (d + 2) 0 0 yX10_as [rr E m, .int tab, .int kind] S I P R := by
  refine pm_of (by decide) cd_X10_as (by decide) (by decide) (Nat.le_of_ble_eq_true rfl) ?_
  intro C G hq
  obtain ⟨g0, ⟨r0, r1, r2, r3, r4, r5, r6, r7, r8, r9, r10, r11, r12, r13, r14⟩, ⟨s1, s2, s3, s4, s5, s6, s7, s8, s9, s10, s11, s12, s13, s14, s15⟩⟩ := id hM
  refine z_aload_n G dX10_as_0 rfl ?_
  refine z_iload_n G dX10_as_1 rfl ?_
  refine z_V G lk_X10_202 dX10_as_2 [_] rfl rfl rfl (Nat.le_of_ble_eq_true rfl) ⟨Nat.le_refl _, Nat.le_refl _⟩ (by assumption) ?_
  refine k_X10_isTab hM hT (by omega) ?_ ?_
  · intro i hi hiT
    refine z_if_eq G 17 dX10_as_5 (by decide) (fun c => absurd c (by decide)) (fun _ => ?_)
    refine z_iload_n G dX10_as_8 rfl ?_
    refine z_iconst G (v := 0) dX10_as_9 (by decide) ?_
    refine z_iconst G (v := 5) dX10_as_10 (by decide) ?_
    refine z_S G lk_X10_62 dX10_as_11 [_, _, _] rfl rfl rfl (Nat.le_of_ble_eq_true rfl) ⟨Nat.le_refl _, Nat.le_refl _⟩ ?_
    refine k_X10_in ?_ ?_
    · intro hin
      refine z_if_ne G 20 dX10_as_14 (by decide) (fun _ => ?_) (fun c => absurd c (by decide))
      obtain ⟨k, hk1, hk2⟩ : ∃ k : Nat, kind.toInt = (k : Int) ∧ k ≤ 5 := ⟨kind.toInt.toNat, by simp only [ti_lt, ti_le, Int32.reduceToInt] at hin; omega, by simp only [ti_lt, ti_le, Int32.reduceToInt] at hin; omega⟩
      refine z_aload_n G dX10_as_20 rfl ?_
      refine z_iload_n G dX10_as_21 rfl ?_
      refine z_V G lk_X10_242 dX10_as_22 [_] rfl rfl rfl (Nat.le_of_ble_eq_true rfl) ⟨Nat.le_refl _, Nat.le_refl _⟩ (by assumption) ?_
      refine k_X10_kindIn hM hi (by omega) ?_
      refine z_istore_n G dX10_as_25 (Nat.le_of_ble_eq_true rfl) rfl ?_
      refine z_iload_n G dX10_as_26 rfl ?_
      refine z_if_eq G 55 dX10_as_27 (by decide) (fun b27 => ?_) (fun b27 => ?_)
      · refine z_iconst G (v := 1) dX10_as_55 (by decide) ?_
        refine z_goto G 60 dX10_as_56 (by decide) ?_
        refine z_istore G dX10_as_60 (Nat.le_of_ble_eq_true rfl) rfl ?_
        refine z_iload G dX10_as_62 rfl ?_
        refine z_if_eq G 75 dX10_as_64 (by decide) (fun c => absurd c (by decide)) (fun _ => ?_)
        refine z_aload_n G dX10_as_67 rfl ?_
        refine z_iload_n G dX10_as_68 rfl ?_
        refine z_V G lk_X10_75 dX10_as_69 [_] rfl rfl rfl (Nat.le_of_ble_eq_true rfl) ⟨Nat.le_refl _, Nat.le_refl _⟩ (by assumption) ?_
        refine k_X10_well hM ?_
        refine z_goto G 80 dX10_as_72 (by decide) ?_
        exact z_iret G hq dX10_as_80 (hok i k hi hiT hk1 hk2 (Or.inl b27))
      · refine z_iload_n G dX10_as_30 rfl ?_
        refine z_iload_n G dX10_as_31 rfl ?_
        refine z_icmp_eq G 55 dX10_as_32 (by decide) (fun b32 => ?_) (fun b32 => ?_)
        · refine z_iconst G (v := 1) dX10_as_55 (by decide) ?_
          refine z_goto G 60 dX10_as_56 (by decide) ?_
          refine z_istore G dX10_as_60 (Nat.le_of_ble_eq_true rfl) rfl ?_
          refine z_iload G dX10_as_62 rfl ?_
          refine z_if_eq G 75 dX10_as_64 (by decide) (fun c => absurd c (by decide)) (fun _ => ?_)
          refine z_aload_n G dX10_as_67 rfl ?_
          refine z_iload_n G dX10_as_68 rfl ?_
          refine z_V G lk_X10_75 dX10_as_69 [_] rfl rfl rfl (Nat.le_of_ble_eq_true rfl) ⟨Nat.le_refl _, Nat.le_refl _⟩ (by assumption) ?_
          refine k_X10_well hM ?_
          refine z_goto G 80 dX10_as_72 (by decide) ?_
          exact z_iret G hq dX10_as_80 (hok i k hi hiT hk1 hk2 (Or.inr (Or.inl b32)))
        · refine z_iload_n G dX10_as_35 rfl ?_
          refine z_iconst G (v := 1) dX10_as_36 (by decide) ?_
          refine z_icmp_ne G 45 dX10_as_37 (by decide) (fun b37 => ?_) (fun b37 => ?_)
          · refine z_iload_n G dX10_as_45 rfl ?_
            refine z_iconst G (v := 4) dX10_as_46 (by decide) ?_
            refine z_icmp_ne G 59 dX10_as_47 (by decide) (fun b47 => ?_) (fun b47 => ?_)
            · refine z_iconst G (v := 0) dX10_as_59 (by decide) ?_
              refine z_istore G dX10_as_60 (Nat.le_of_ble_eq_true rfl) rfl ?_
              refine z_iload G dX10_as_62 rfl ?_
              refine z_if_eq G 75 dX10_as_64 (by decide) (fun _ => ?_) (fun c => absurd c (by decide))
              refine z_aload_n G dX10_as_75 rfl ?_
              refine z_iconst G (v := 3) dX10_as_76 (by decide) ?_
              refine z_V G lk_X10_71 dX10_as_77 [_] rfl rfl rfl (Nat.le_of_ble_eq_true rfl) ⟨Nat.le_refl _, Nat.le_refl _⟩ (by assumption) ?_
              refine k_X10_found hM ?_
              exact z_iret G hq dX10_as_80 (hno i k hi hiT hk1 hk2 (fun q => Or.elim q (fun q => b27 q) (fun q => Or.elim q (fun q => b32 q) (fun q => Or.elim q (fun q => b37 q.1) (fun q => b47 q.1)))))
            · refine z_iload_n G dX10_as_50 rfl ?_
              refine z_iconst G (v := 5) dX10_as_51 (by decide) ?_
              refine z_icmp_ne G 59 dX10_as_52 (by decide) (fun b52 => ?_) (fun b52 => ?_)
              · refine z_iconst G (v := 0) dX10_as_59 (by decide) ?_
                refine z_istore G dX10_as_60 (Nat.le_of_ble_eq_true rfl) rfl ?_
                refine z_iload G dX10_as_62 rfl ?_
                refine z_if_eq G 75 dX10_as_64 (by decide) (fun _ => ?_) (fun c => absurd c (by decide))
                refine z_aload_n G dX10_as_75 rfl ?_
                refine z_iconst G (v := 3) dX10_as_76 (by decide) ?_
                refine z_V G lk_X10_71 dX10_as_77 [_] rfl rfl rfl (Nat.le_of_ble_eq_true rfl) ⟨Nat.le_refl _, Nat.le_refl _⟩ (by assumption) ?_
                refine k_X10_found hM ?_
                exact z_iret G hq dX10_as_80 (hno i k hi hiT hk1 hk2 (fun q => Or.elim q (fun q => b27 q) (fun q => Or.elim q (fun q => b32 q) (fun q => Or.elim q (fun q => b37 q.1) (fun q => b52 q.2)))))
              · refine z_iconst G (v := 1) dX10_as_55 (by decide) ?_
                refine z_goto G 60 dX10_as_56 (by decide) ?_
                refine z_istore G dX10_as_60 (Nat.le_of_ble_eq_true rfl) rfl ?_
                refine z_iload G dX10_as_62 rfl ?_
                refine z_if_eq G 75 dX10_as_64 (by decide) (fun c => absurd c (by decide)) (fun _ => ?_)
                refine z_aload_n G dX10_as_67 rfl ?_
                refine z_iload_n G dX10_as_68 rfl ?_
                refine z_V G lk_X10_75 dX10_as_69 [_] rfl rfl rfl (Nat.le_of_ble_eq_true rfl) ⟨Nat.le_refl _, Nat.le_refl _⟩ (by assumption) ?_
                refine k_X10_well hM ?_
                refine z_goto G 80 dX10_as_72 (by decide) ?_
                exact z_iret G hq dX10_as_80 (hok i k hi hiT hk1 hk2 (Or.inr (Or.inr (Or.inr ⟨b47, b52⟩))))
          · refine z_iload_n G dX10_as_40 rfl ?_
            refine z_iconst G (v := 4) dX10_as_41 (by decide) ?_
            refine z_icmp_lt G 55 dX10_as_42 (by decide) (fun b42 => ?_) (fun b42 => ?_)
            · refine z_iconst G (v := 1) dX10_as_55 (by decide) ?_
              refine z_goto G 60 dX10_as_56 (by decide) ?_
              refine z_istore G dX10_as_60 (Nat.le_of_ble_eq_true rfl) rfl ?_
              refine z_iload G dX10_as_62 rfl ?_
              refine z_if_eq G 75 dX10_as_64 (by decide) (fun c => absurd c (by decide)) (fun _ => ?_)
              refine z_aload_n G dX10_as_67 rfl ?_
              refine z_iload_n G dX10_as_68 rfl ?_
              refine z_V G lk_X10_75 dX10_as_69 [_] rfl rfl rfl (Nat.le_of_ble_eq_true rfl) ⟨Nat.le_refl _, Nat.le_refl _⟩ (by assumption) ?_
              refine k_X10_well hM ?_
              refine z_goto G 80 dX10_as_72 (by decide) ?_
              exact z_iret G hq dX10_as_80 (hok i k hi hiT hk1 hk2 (Or.inr (Or.inr (Or.inl ⟨b37, b42⟩))))
            · refine z_iload_n G dX10_as_45 rfl ?_
              refine z_iconst G (v := 4) dX10_as_46 (by decide) ?_
              refine z_icmp_ne G 59 dX10_as_47 (by decide) (fun b47 => ?_) (fun b47 => ?_)
              · refine z_iconst G (v := 0) dX10_as_59 (by decide) ?_
                refine z_istore G dX10_as_60 (Nat.le_of_ble_eq_true rfl) rfl ?_
                refine z_iload G dX10_as_62 rfl ?_
                refine z_if_eq G 75 dX10_as_64 (by decide) (fun _ => ?_) (fun c => absurd c (by decide))
                refine z_aload_n G dX10_as_75 rfl ?_
                refine z_iconst G (v := 3) dX10_as_76 (by decide) ?_
                refine z_V G lk_X10_71 dX10_as_77 [_] rfl rfl rfl (Nat.le_of_ble_eq_true rfl) ⟨Nat.le_refl _, Nat.le_refl _⟩ (by assumption) ?_
                refine k_X10_found hM ?_
                exact z_iret G hq dX10_as_80 (hno i k hi hiT hk1 hk2 (fun q => Or.elim q (fun q => b27 q) (fun q => Or.elim q (fun q => b32 q) (fun q => Or.elim q (fun q => b42 q.2) (fun q => b47 q.1)))))
              · refine z_iload_n G dX10_as_50 rfl ?_
                refine z_iconst G (v := 5) dX10_as_51 (by decide) ?_
                refine z_icmp_ne G 59 dX10_as_52 (by decide) (fun b52 => ?_) (fun b52 => ?_)
                · refine z_iconst G (v := 0) dX10_as_59 (by decide) ?_
                  refine z_istore G dX10_as_60 (Nat.le_of_ble_eq_true rfl) rfl ?_
                  refine z_iload G dX10_as_62 rfl ?_
                  refine z_if_eq G 75 dX10_as_64 (by decide) (fun _ => ?_) (fun c => absurd c (by decide))
                  refine z_aload_n G dX10_as_75 rfl ?_
                  refine z_iconst G (v := 3) dX10_as_76 (by decide) ?_
                  refine z_V G lk_X10_71 dX10_as_77 [_] rfl rfl rfl (Nat.le_of_ble_eq_true rfl) ⟨Nat.le_refl _, Nat.le_refl _⟩ (by assumption) ?_
                  refine k_X10_found hM ?_
                  exact z_iret G hq dX10_as_80 (hno i k hi hiT hk1 hk2 (fun q => Or.elim q (fun q => b27 q) (fun q => Or.elim q (fun q => b32 q) (fun q => Or.elim q (fun q => b42 q.2) (fun q => b52 q.2)))))
                · refine z_iconst G (v := 1) dX10_as_55 (by decide) ?_
                  refine z_goto G 60 dX10_as_56 (by decide) ?_
                  refine z_istore G dX10_as_60 (Nat.le_of_ble_eq_true rfl) rfl ?_
                  refine z_iload G dX10_as_62 rfl ?_
                  refine z_if_eq G 75 dX10_as_64 (by decide) (fun c => absurd c (by decide)) (fun _ => ?_)
                  refine z_aload_n G dX10_as_67 rfl ?_
                  refine z_iload_n G dX10_as_68 rfl ?_
                  refine z_V G lk_X10_75 dX10_as_69 [_] rfl rfl rfl (Nat.le_of_ble_eq_true rfl) ⟨Nat.le_refl _, Nat.le_refl _⟩ (by assumption) ?_
                  refine k_X10_well hM ?_
                  refine z_goto G 80 dX10_as_72 (by decide) ?_
                  exact z_iret G hq dX10_as_80 (hok i k hi hiT hk1 hk2 (Or.inr (Or.inr (Or.inr ⟨b47, b52⟩))))
    · intro hin
      refine z_if_ne G 20 dX10_as_14 (by decide) (fun c => absurd c (by decide)) (fun _ => ?_)
      refine z_ldc G ct_X10_70 dX10_as_17 ?_
      exact z_iret G hq dX10_as_19 (hb (fun ⟨i, k, _, _, q1, q2⟩ => hin (by simp only [ti_lt, ti_le, Int32.reduceToInt]; omega)))
  · intro hnt
    refine z_if_eq G 17 dX10_as_5 (by decide) (fun _ => ?_) (fun c => absurd c (by decide))
    refine z_ldc G ct_X10_70 dX10_as_17 ?_
    exact z_iret G hq dX10_as_19 (hb (fun ⟨i, k, q1, q2, _⟩ => hnt ⟨i, q1, q2⟩))
set_option maxHeartbeats 1000000 in
set_option maxRecDepth 20000 in
theorem k_X10_tab {E : pmE} {d : Nat} {S : pmS} {I : pmI} {P : pmP} {R : Option Value → pmS → pmI → pmP → Prop} {m : Nat} (hM : MG S P m) {T : Nat} (hT : (I (m + 6) 1).toInt = (T : Int)) (hT5 : T ≤ 5) {tab what : Int32} (hsn : ∀ i, i < T → ∃ s : Nat, (I (m + 6) (47 + 10 * i)).toInt = (s : Int) ∧ s < 6) (hb : (¬ ∃ i : Nat, tab.toInt = (i : Int) ∧ i < T) → R (some (.int (-1000001))) S I P) (h0 : ∀ i s : Nat, tab.toInt = (i : Int) → i < T → (I (m + 6) (47 + 10 * i)).toInt = (s : Int) → s < 6 → what = 0 → R (some (.int (I (m + 6) (48 + 10 * i + s)))) S I P) (h1 : ∀ i : Nat, tab.toInt = (i : Int) → i < T → what = 1 → R (some (.int (I (m + 6) (45 + 10 * i)))) S I P) (h2 : ∀ i : Nat, tab.toInt = (i : Int) → i < T → what = 2 → R (some (.int (I (m + 6) (46 + 10 * i)))) S I P) (h3 : ∀ i : Nat, tab.toInt = (i : Int) → i < T → what = 3 → R (some (.int (I (m + 6) (47 + 10 * i)))) S I P) (h4 : ∀ i : Nat, tab.toInt = (i : Int) → i < T → (what.toInt < 0 ∨ 3 < what.toInt) → R (some (.int (-1000001))) S I P) : pmX E (d + 2) 0 0 yX10_tab [rr E m, .int tab, .int what] S I P R := by
  refine pm_of (by decide) cd_X10_tab (by decide) (by decide) (Nat.le_of_ble_eq_true rfl) ?_
  intro C G hq
  obtain ⟨g0, ⟨r0, r1, r2, r3, r4, r5, r6, r7, r8, r9, r10, r11, r12, r13, r14⟩, ⟨s1, s2, s3, s4, s5, s6, s7, s8, s9, s10, s11, s12, s13, s14, s15⟩⟩ := id hM
  refine z_aload_n G dX10_tab_0 rfl ?_
  refine z_iload_n G dX10_tab_1 rfl ?_
  refine z_V G lk_X10_202 dX10_tab_2 [_] rfl rfl rfl (Nat.le_of_ble_eq_true rfl) ⟨Nat.le_refl _, Nat.le_refl _⟩ (by assumption) ?_
  refine k_X10_isTab hM hT (by omega) ?_ ?_
  · intro i hi hiT
    refine z_if_ne G 11 dX10_tab_5 (by decide) (fun _ => ?_) (fun c => absurd c (by decide))
    refine z_iload_n G dX10_tab_11 rfl ?_
    have hsw : (what.toInt < 0 ∨ 3 < what.toInt) ∨ what = 0 ∨ what = 1 ∨ what = 2 ∨ what = 3 := by simp only [ti_eq, Int32.reduceToInt]; omega
    rcases hsw with e | e | e | e | e
    · refine z_tout G 98 dX10_tab_12 e (by decide) ?_
      refine z_ldc G ct_X10_70 dX10_tab_98 ?_
      exact z_iret G hq dX10_tab_100 (h4 i hi hiT e)
    · refine z_tin G 44 dX10_tab_12 (by rw [e]; decide) (by rw [e]; decide) (by rw [e]; rfl) (by decide) ?_
      refine z_aload_n G dX10_tab_44 rfl ?_
      refine z_getR G fl_X10_25 rfl dX10_tab_45 (by assumption) (by assumption) ?_
      refine z_iload_n G dX10_tab_48 rfl ?_
      obtain ⟨s, hs1, hs2⟩ := hsn i hiT
      refine z_S G lk_X10_153 dX10_tab_49 [_, _] rfl rfl rfl (Nat.le_of_ble_eq_true rfl) ⟨Nat.le_refl _, Nat.le_refl _⟩ ?_
      refine k_X10_shows s6 hi (by omega) hs1 hs2 ?_
      exact z_iret G hq dX10_tab_52 (h0 i s hi hiT hs1 hs2 e)
    · refine z_tin G 53 dX10_tab_12 (by rw [e]; decide) (by rw [e]; decide) (by rw [e]; rfl) (by decide) ?_
      refine z_aload_n G dX10_tab_53 rfl ?_
      refine z_getR G fl_X10_25 rfl dX10_tab_54 (by assumption) (by assumption) ?_
      refine z_bipush G (v := 44) dX10_tab_57 (by decide) ?_
      refine z_bipush G (v := 10) dX10_tab_59 (by decide) ?_
      refine z_iload_n G dX10_tab_61 rfl ?_
      refine z_imul G dX10_tab_62 ?_
      refine z_iadd G dX10_tab_63 ?_
      refine z_iconst G (v := 1) dX10_tab_64 (by decide) ?_
      refine z_iadd G dX10_tab_65 ?_
      refine z_iald G (45 + 10 * i) dX10_tab_66 (by assumption) (by simp (disch := omega) only [iN_lit, iN_add, iN_sub, iN_mul, iN_an, iN_of hi]; exact iN_ti2 (by omega) (by omega)) (by omega) ?_
      exact z_iret G hq dX10_tab_67 (h1 i hi hiT e)
    · refine z_tin G 68 dX10_tab_12 (by rw [e]; decide) (by rw [e]; decide) (by rw [e]; rfl) (by decide) ?_
      refine z_aload_n G dX10_tab_68 rfl ?_
      refine z_getR G fl_X10_25 rfl dX10_tab_69 (by assumption) (by assumption) ?_
      refine z_bipush G (v := 44) dX10_tab_72 (by decide) ?_
      refine z_bipush G (v := 10) dX10_tab_74 (by decide) ?_
      refine z_iload_n G dX10_tab_76 rfl ?_
      refine z_imul G dX10_tab_77 ?_
      refine z_iadd G dX10_tab_78 ?_
      refine z_iconst G (v := 2) dX10_tab_79 (by decide) ?_
      refine z_iadd G dX10_tab_80 ?_
      refine z_iald G (46 + 10 * i) dX10_tab_81 (by assumption) (by simp (disch := omega) only [iN_lit, iN_add, iN_sub, iN_mul, iN_an, iN_of hi]; exact iN_ti2 (by omega) (by omega)) (by omega) ?_
      exact z_iret G hq dX10_tab_82 (h2 i hi hiT e)
    · refine z_tin G 83 dX10_tab_12 (by rw [e]; decide) (by rw [e]; decide) (by rw [e]; rfl) (by decide) ?_
      refine z_aload_n G dX10_tab_83 rfl ?_
      refine z_getR G fl_X10_25 rfl dX10_tab_84 (by assumption) (by assumption) ?_
      refine z_bipush G (v := 44) dX10_tab_87 (by decide) ?_
      refine z_bipush G (v := 10) dX10_tab_89 (by decide) ?_
      refine z_iload_n G dX10_tab_91 rfl ?_
      refine z_imul G dX10_tab_92 ?_
      refine z_iadd G dX10_tab_93 ?_
      refine z_iconst G (v := 3) dX10_tab_94 (by decide) ?_
      refine z_iadd G dX10_tab_95 ?_
      refine z_iald G (47 + 10 * i) dX10_tab_96 (by assumption) (by simp (disch := omega) only [iN_lit, iN_add, iN_sub, iN_mul, iN_an, iN_of hi]; exact iN_ti2 (by omega) (by omega)) (by omega) ?_
      exact z_iret G hq dX10_tab_97 (h3 i hi hiT e)
  · intro hnt
    refine z_if_ne G 11 dX10_tab_5 (by decide) (fun c => absurd c (by decide)) (fun _ => ?_)
    refine z_ldc G ct_X10_70 dX10_tab_8 ?_
    exact z_iret G hq dX10_tab_10 (hb hnt)
set_option maxHeartbeats 1000000 in
set_option maxRecDepth 20000 in
theorem k_X10_trail {E : pmE} {d : Nat} {S : pmS} {I : pmI} {P : pmP} {R : Option Value → pmS → pmI → pmP → Prop} {m : Nat} (hM : MG S P m) {T : Nat} (hT : (I (m + 6) 1).toInt = (T : Int)) (hT5 : T ≤ 5) {tab k : Int32} (hln : ∀ i, i < T → (I (m + 6) (46 + 10 * i)).toInt ≤ 6) (hb : (¬ ∃ i j : Nat, tab.toInt = (i : Int) ∧ i < T ∧ k.toInt = (j : Int)) → R (some (.int (-1000001))) S I P) (h1 : ∀ i j : Nat, tab.toInt = (i : Int) → i < T → k.toInt = (j : Int) → k < I (m + 6) (46 + 10 * i) → R (some (.int (I (m + 6) (48 + 10 * i + j)))) S I P) (h0 : ∀ i j : Nat, tab.toInt = (i : Int) → i < T → k.toInt = (j : Int) → ¬ k < I (m + 6) (46 + 10 * i) → R (some (.int (-1000000))) S I P) : pmX E (d + 2) 0 0 yX10_trail [rr E m, .int tab, .int k] S I P R := by
  refine pm_of (by decide) cd_X10_trail (by decide) (by decide) (Nat.le_of_ble_eq_true rfl) ?_
  intro C G hq
  obtain ⟨g0, ⟨r0, r1, r2, r3, r4, r5, r6, r7, r8, r9, r10, r11, r12, r13, r14⟩, ⟨s1, s2, s3, s4, s5, s6, s7, s8, s9, s10, s11, s12, s13, s14, s15⟩⟩ := id hM
  refine z_aload_n G dX10_trail_0 rfl ?_
  refine z_iload_n G dX10_trail_1 rfl ?_
  refine z_V G lk_X10_202 dX10_trail_2 [_] rfl rfl rfl (Nat.le_of_ble_eq_true rfl) ⟨Nat.le_refl _, Nat.le_refl _⟩ (by assumption) ?_
  refine k_X10_isTab hM hT (by omega) ?_ ?_
  · intro i hi hiT
    refine z_if_eq G 12 dX10_trail_5 (by decide) (fun c => absurd c (by decide)) (fun _ => ?_)
    refine z_iload_n G dX10_trail_8 rfl ?_
    refine z_if_ge G 15 dX10_trail_9 (by decide) (fun b9 => ?_) (fun b9 => ?_)
    · obtain ⟨j, hj⟩ : ∃ j : Nat, k.toInt = (j : Int) := ⟨k.toInt.toNat, by simp only [ti_lt, ti_le, Int32.reduceToInt] at b9; omega⟩
      have hl6 := hln i hiT
      refine z_iload_n G dX10_trail_15 rfl ?_
      refine z_aload_n G dX10_trail_16 rfl ?_
      refine z_getR G fl_X10_25 rfl dX10_trail_17 (by assumption) (by assumption) ?_
      refine z_bipush G (v := 44) dX10_trail_20 (by decide) ?_
      refine z_bipush G (v := 10) dX10_trail_22 (by decide) ?_
      refine z_iload_n G dX10_trail_24 rfl ?_
      refine z_imul G dX10_trail_25 ?_
      refine z_iadd G dX10_trail_26 ?_
      refine z_iconst G (v := 2) dX10_trail_27 (by decide) ?_
      refine z_iadd G dX10_trail_28 ?_
      refine z_iald G (46 + 10 * i) dX10_trail_29 (by assumption) (by simp (disch := omega) only [iN_lit, iN_add, iN_sub, iN_mul, iN_an, iN_of hi]; exact iN_ti2 (by omega) (by omega)) (by omega) ?_
      refine z_icmp_ge G 52 dX10_trail_30 (by decide) (fun b30 => ?_) (fun b30 => ?_)
      · refine z_ldc G ct_X10_56 dX10_trail_52 ?_
        exact z_iret G hq dX10_trail_54 (h0 i j hi hiT hj (by simp only [ti_lt, ti_le] at *; omega))
      · refine z_aload_n G dX10_trail_33 rfl ?_
        refine z_getR G fl_X10_25 rfl dX10_trail_34 (by assumption) (by assumption) ?_
        refine z_bipush G (v := 44) dX10_trail_37 (by decide) ?_
        refine z_bipush G (v := 10) dX10_trail_39 (by decide) ?_
        refine z_iload_n G dX10_trail_41 rfl ?_
        refine z_imul G dX10_trail_42 ?_
        refine z_iadd G dX10_trail_43 ?_
        refine z_iconst G (v := 4) dX10_trail_44 (by decide) ?_
        refine z_iadd G dX10_trail_45 ?_
        refine z_iload_n G dX10_trail_46 rfl ?_
        refine z_iadd G dX10_trail_47 ?_
        simp only [ti_le, hj] at b30
        refine z_iald G (48 + 10 * i + j) dX10_trail_48 (by assumption) (by simp (disch := omega) only [iN_lit, iN_add, iN_sub, iN_mul, iN_an, iN_of hi, iN_of hj]; exact iN_ti2 (by omega) (by omega)) (by omega) ?_
        refine z_goto G 54 dX10_trail_49 (by decide) ?_
        exact z_iret G hq dX10_trail_54 (h1 i j hi hiT hj (by simp only [ti_lt, ti_le] at *; omega))
    · refine z_ldc G ct_X10_70 dX10_trail_12 ?_
      exact z_iret G hq dX10_trail_14 (hb (fun ⟨i, j, _, _, q1⟩ => b9 (by simp only [ti_lt, ti_le, Int32.reduceToInt]; omega)))
  · intro hnt
    refine z_if_eq G 12 dX10_trail_5 (by decide) (fun _ => ?_) (fun c => absurd c (by decide))
    refine z_ldc G ct_X10_70 dX10_trail_12 ?_
    exact z_iret G hq dX10_trail_14 (hb (fun ⟨i, j, q1, q2, _⟩ => hnt ⟨i, q1, q2⟩))
set_option maxHeartbeats 1000000 in
set_option maxRecDepth 20000 in
theorem k_X10_page {E : pmE} {d : Nat} {S : pmS} {I : pmI} {P : pmP} {R : Option Value → pmS → pmI → pmP → Prop} {m : Nat} (hM : MG S P m) {n : Nat} {page what : Int32} (hn : (I (m + 6) 0).toInt = (n : Int)) (hn8 : n ≤ 8) (hb : (¬ ∃ q k : Nat, page.toInt = (q : Int) ∧ q < n ∧ what.toInt = (k : Int) ∧ k ≤ 4) → R (some (.int (-1000001))) S I P) (h1 : ∀ q k : Nat, page.toInt = (q : Int) → q < n → what.toInt = (k : Int) → k ≤ 4 → (k = 0 ∨ k = 4 ∨ ¬ I (m + 6) (4 + 5 * q) < what) → R (some (.int (I (m + 6) (4 + 5 * q + k)))) S I P) (h0 : ∀ q k : Nat, page.toInt = (q : Int) → q < n → what.toInt = (k : Int) → k ≤ 4 → ¬ (k = 0 ∨ k = 4 ∨ ¬ I (m + 6) (4 + 5 * q) < what) → R (some (.int (-1000000))) S I P) : pmX E (d + 2) 0 0 yX10_page [rr E m, .int page, .int what] S I P R := by
  refine pm_of (by decide) cd_X10_page (by decide) (by decide) (Nat.le_of_ble_eq_true rfl) ?_
  intro C G hq
  obtain ⟨g0, ⟨r0, r1, r2, r3, r4, r5, r6, r7, r8, r9, r10, r11, r12, r13, r14⟩, ⟨s1, s2, s3, s4, s5, s6, s7, s8, s9, s10, s11, s12, s13, s14, s15⟩⟩ := id hM
  refine z_aload_n G dX10_page_0 rfl ?_
  refine z_iload_n G dX10_page_1 rfl ?_
  refine z_V G lk_X10_205 dX10_page_2 [_] rfl rfl rfl (Nat.le_of_ble_eq_true rfl) ⟨Nat.le_refl _, Nat.le_refl _⟩ (by assumption) ?_
  refine k_X10_isPage hM hn (by omega) ?_ ?_
  · intro q hq1 hq2
    refine z_if_eq G 17 dX10_page_5 (by decide) (fun c => absurd c (by decide)) (fun _ => ?_)
    refine z_iload_n G dX10_page_8 rfl ?_
    refine z_iconst G (v := 0) dX10_page_9 (by decide) ?_
    refine z_iconst G (v := 4) dX10_page_10 (by decide) ?_
    refine z_S G lk_X10_62 dX10_page_11 [_, _, _] rfl rfl rfl (Nat.le_of_ble_eq_true rfl) ⟨Nat.le_refl _, Nat.le_refl _⟩ ?_
    refine k_X10_in ?_ ?_
    · intro hin
      refine z_if_ne G 20 dX10_page_14 (by decide) (fun _ => ?_) (fun c => absurd c (by decide))
      obtain ⟨k, hk1, hk2⟩ : ∃ k : Nat, what.toInt = (k : Int) ∧ k ≤ 4 := ⟨what.toInt.toNat, by simp only [ti_lt, ti_le, Int32.reduceToInt] at hin; omega, by simp only [ti_lt, ti_le, Int32.reduceToInt] at hin; omega⟩
      refine z_iconst G (v := 4) dX10_page_20 (by decide) ?_
      refine z_iconst G (v := 5) dX10_page_21 (by decide) ?_
      refine z_iload_n G dX10_page_22 rfl ?_
      refine z_imul G dX10_page_23 ?_
      refine z_iadd G dX10_page_24 ?_
      refine z_top (y := iN (4 + 5 * q)) (by simp (disch := omega) only [iN_lit, iN_add, iN_sub, iN_mul, iN_an, iN_of hq1] <;> exact congrArg iN (by omega)) ?_
      refine z_istore_n G dX10_page_25 (Nat.le_of_ble_eq_true rfl) rfl ?_
      refine z_iload_n G dX10_page_26 rfl ?_
      refine z_if_eq G 35 dX10_page_27 (by decide) (fun b27 => ?_) (fun b27 => ?_)
      · refine z_aload_n G dX10_page_35 rfl ?_
        refine z_getR G fl_X10_25 rfl dX10_page_36 (by assumption) (by assumption) ?_
        refine z_iload_n G dX10_page_39 rfl ?_
        refine z_iload_n G dX10_page_40 rfl ?_
        refine z_iadd G dX10_page_41 ?_
        refine z_iald G (4 + 5 * q + k) dX10_page_42 (by assumption) (by simp (disch := omega) only [iN_lit, iN_add, iN_sub, iN_mul, iN_an, iN_of hk1]; exact iN_ti2 (by omega) (by omega)) (by omega) ?_
        refine z_goto G 69 dX10_page_43 (by decide) ?_
        exact z_iret G hq dX10_page_69 (h1 q k hq1 hq2 hk1 hk2 (Or.inl (by have := congrArg Int32.toInt b27; rw [hk1] at this; simp only [Int32.reduceToInt] at this; omega)))
      · refine z_iload_n G dX10_page_30 rfl ?_
        refine z_iconst G (v := 4) dX10_page_31 (by decide) ?_
        refine z_icmp_ne G 46 dX10_page_32 (by decide) (fun b32 => ?_) (fun b32 => ?_)
        · refine z_iload_n G dX10_page_46 rfl ?_
          refine z_aload_n G dX10_page_47 rfl ?_
          refine z_getR G fl_X10_25 rfl dX10_page_48 (by assumption) (by assumption) ?_
          refine z_iload_n G dX10_page_51 rfl ?_
          refine z_iald G (4 + 5 * q) dX10_page_52 (by assumption) (iN_ti (by omega)) (by omega) ?_
          refine z_icmp_le G 61 dX10_page_53 (by decide) (fun b53 => ?_) (fun b53 => ?_)
          · refine z_aload_n G dX10_page_61 rfl ?_
            refine z_getR G fl_X10_25 rfl dX10_page_62 (by assumption) (by assumption) ?_
            refine z_iload_n G dX10_page_65 rfl ?_
            refine z_iload_n G dX10_page_66 rfl ?_
            refine z_iadd G dX10_page_67 ?_
            refine z_iald G (4 + 5 * q + k) dX10_page_68 (by assumption) (by simp (disch := omega) only [iN_lit, iN_add, iN_sub, iN_mul, iN_an, iN_of hk1]; exact iN_ti2 (by omega) (by omega)) (by omega) ?_
            exact z_iret G hq dX10_page_69 (h1 q k hq1 hq2 hk1 hk2 (Or.inr (Or.inr (by simp only [ti_lt, ti_le] at *; omega))))
          · refine z_ldc G ct_X10_56 dX10_page_56 ?_
            refine z_goto G 69 dX10_page_58 (by decide) ?_
            exact z_iret G hq dX10_page_69 (h0 q k hq1 hq2 hk1 hk2 (fun z => Or.elim z (fun z => b27 (by rw [iN_of hk1, z]; rfl)) (fun z => Or.elim z (fun z => b32 (by rw [iN_of hk1, z]; rfl)) (fun z => z (by simp only [ti_lt, ti_le] at *; omega)))))
        · refine z_aload_n G dX10_page_35 rfl ?_
          refine z_getR G fl_X10_25 rfl dX10_page_36 (by assumption) (by assumption) ?_
          refine z_iload_n G dX10_page_39 rfl ?_
          refine z_iload_n G dX10_page_40 rfl ?_
          refine z_iadd G dX10_page_41 ?_
          refine z_iald G (4 + 5 * q + k) dX10_page_42 (by assumption) (by simp (disch := omega) only [iN_lit, iN_add, iN_sub, iN_mul, iN_an, iN_of hk1]; exact iN_ti2 (by omega) (by omega)) (by omega) ?_
          refine z_goto G 69 dX10_page_43 (by decide) ?_
          exact z_iret G hq dX10_page_69 (h1 q k hq1 hq2 hk1 hk2 (Or.inr (Or.inl (by have := congrArg Int32.toInt b32; rw [hk1] at this; simp only [Int32.reduceToInt] at this; omega))))
    · intro hin
      refine z_if_ne G 20 dX10_page_14 (by decide) (fun c => absurd c (by decide)) (fun _ => ?_)
      refine z_ldc G ct_X10_70 dX10_page_17 ?_
      exact z_iret G hq dX10_page_19 (hb (fun ⟨i, k, _, _, q1, q2⟩ => hin (by simp only [ti_lt, ti_le, Int32.reduceToInt]; omega)))
  · intro hnt
    refine z_if_eq G 17 dX10_page_5 (by decide) (fun _ => ?_) (fun c => absurd c (by decide))
    refine z_ldc G ct_X10_70 dX10_page_17 ?_
    exact z_iret G hq dX10_page_19 (hb (fun ⟨i, k, q1, q2, _⟩ => hnt ⟨i, q1, q2⟩))
