set_option maxHeartbeats 1000000 in
set_option maxRecDepth 20000 in
theorem k_X8_become {E : pmE} {d : Nat} {S : pmS} {I : pmI} {P : pmP} {R : Option Value → pmS → pmI → pmP → Prop} {g u n : Nat} {w : Nat → Int32} (hG : WebG S P g) (hG2 : WebG S P u) (hdis : g + 3 ≤ u ∨ u + 3 ≤ g) (hr : WR I u w n) (hv : VL w n) (h8 : n ≤ 8) (h : ∀ I', FrW I I' g → WR I' g w n → R none S I' P) : pmX E (d + 1) 0 0 yX8_become [rr E g, rr E u] S I P R := by
  refine pm_of (by decide) cd_X8_become (by decide) (by decide) (Nat.le_of_ble_eq_true rfl) ?_
  intro C G hq
  obtain ⟨g1, g2, g3, g4, g5⟩ := id hG
  obtain ⟨k1, k2, k3, k4, k5⟩ := id hG2
  refine z_aload_n G dX8_become_0 rfl ?_
  refine z_aload_n G dX8_become_1 rfl ?_
  refine z_getI G fl_X8_18 rfl dX8_become_2 (by assumption) ?_
  refine z_putI G fl_X8_18 ft_8_2 rfl rfl rfl dX8_become_5 (by assumption) ?_
  refine z_aload_n G dX8_become_8 rfl ?_
  refine z_getR G fl_X8_9 rfl dX8_become_9 (by assumption) (by assumption) ?_
  refine z_iconst G (v := 0) dX8_become_12 (by decide) ?_
  refine z_aload_n G dX8_become_13 rfl ?_
  refine z_getR G fl_X8_9 rfl dX8_become_14 (by assumption) (by assumption) ?_
  refine z_iconst G (v := 0) dX8_become_17 (by decide) ?_
  refine z_bipush G (v := 8) dX8_become_18 (by decide) ?_
  refine z_copy G 0 0 8 ml_X8_22 ac_n ac_s ac_i dX8_become_20 rfl (Nat.le_of_ble_eq_true rfl) k4 g4 rfl rfl rfl (by omega) (by omega) ?_
  refine z_aload_n G dX8_become_23 rfl ?_
  refine z_getR G fl_X8_15 rfl dX8_become_24 (by assumption) (by assumption) ?_
  refine z_iconst G (v := 0) dX8_become_27 (by decide) ?_
  refine z_aload_n G dX8_become_28 rfl ?_
  refine z_getR G fl_X8_15 rfl dX8_become_29 (by assumption) (by assumption) ?_
  refine z_iconst G (v := 0) dX8_become_32 (by decide) ?_
  refine z_bipush G (v := 24) dX8_become_33 (by decide) ?_
  refine z_copy G 0 0 24 ml_X8_22 ac_n ac_s ac_i dX8_become_35 rfl (Nat.le_of_ble_eq_true rfl) k5 g5 rfl rfl rfl (by omega) (by omega) ?_
  try simp (disch := omega) only [va_at', va_ne', va_up_up]
  have hwr : ∀ J : pmI, J = va_up (va_up (va_up I g (va_up (I g) 2 (I u 2))) (g + 1) (va_cpy (I (u + 1)) (I (g + 1)) 0 0 8)) (g + 2) (va_cpy (I (u + 2)) (I (g + 2)) 0 0 24) → WR J g w n := by
    intro J hJ
    refine ⟨?_, fun p hp => ⟨?_, fun j hj => ?_⟩⟩
    · rw [hJ]; simp (disch := omega) only [va_at', va_ne', va_up_up]; exact hr.1
    · rw [hJ]; simp (disch := omega) only [va_at', va_ne', va_up_up]; rw [cpy_in (by omega), Nat.zero_add, Nat.sub_zero]; exact (hr.2 p hp).1
    · obtain ⟨cq, cq1, cq2, cq3, _⟩ := hv p hp
      rw [hJ]; simp (disch := omega) only [va_at', va_ne', va_up_up]; rw [cpy_in (by omega), Nat.zero_add, Nat.sub_zero]; exact (hr.2 p hp).2 j hj
  exact z_vret G hq dX8_become_38 (h _ (fun k hk => by simp (disch := omega) only [va_at', va_ne', va_up_up]) (hwr _ rfl))
set_option maxHeartbeats 1000000 in
set_option maxRecDepth 20000 in
theorem k_X4_keep {E : pmE} {d : Nat} {S : pmS} {I : pmI} {P : pmP} {R : Option Value → pmS → pmI → pmP → Prop} (hX : XG S P) {q : Nat} (hq2 : q < 2) {n T t c : Nat} {w : Nat → Int32} (hD : DR I P 30 w T c) (hV : Vd w n T t c) (hW : WR I 27 w n) (h : ∀ I', (∀ k, k < 612 + 24 * q ∨ 636 + 24 * q ≤ k → I' k = I k) → I' (612 + 24 * q) 2 = 1 → WR I' (613 + 24 * q) w n → DR I' P (616 + 24 * q) w T c → R none S I' P) : pmX E (d + 3) 0 0 yX4_keep [rr E (612 + 24 * q), rr E 27, rr E 30] S I P R := by
  refine pm_of (by decide) cd_X4_keep (by decide) (by decide) (Nat.le_of_ble_eq_true rfl) ?_
  intro C G hq
  obtain ⟨⟨a0, a1, a2, a3, a4, a5, a6, a7, a8⟩, hRG, hRdG, hWG, hDG, ⟨z1, z2, z3, z4⟩, hIG, hFG, hAG⟩ := id hX
  obtain ⟨v1, v2, v3, v4, v5, v6, v7, v8⟩ := id hV
  obtain ⟨x1, x2, x3, x4, x5, x6⟩ := hIG.2 q hq2
  refine z_aload_n G dX4_keep_0 rfl ?_
  refine z_getR G fl_X4_10 rfl dX4_keep_1 (by assumption) x3 ?_
  refine z_aload_n G dX4_keep_4 rfl ?_
  refine z_V G lk_X4_27 dX4_keep_5 [_] rfl rfl rfl (Nat.le_of_ble_eq_true rfl) ⟨Nat.le_refl _, Nat.le_refl _⟩ x5.1 ?_
  refine k_X8_become x5 hWG (by omega) hW v5 v1.2.2 (fun I1 f1 f2 => ?_)
  refine z_aload_n G dX4_keep_8 rfl ?_
  refine z_getR G fl_X4_19 rfl dX4_keep_9 (by assumption) x4 ?_
  refine z_aload_n G dX4_keep_12 rfl ?_
  refine z_V G lk_X4_31 dX4_keep_13 [_] rfl rfl rfl (Nat.le_of_ble_eq_true rfl) ⟨Nat.le_refl _, Nat.le_refl _⟩ x6.1.1 ?_
  refine k_X1_become x6 hDG (by omega) (hD.congr hDG v2.2.2 v4.2 (fun _ _ _ => rfl) (fun k _ _ => f1 k (by omega))) v2.1 v2.2.2 v4.1 v4.2 (fun i hi => (v6 i hi).l6) (fun i hi => (v7 i hi).l6) (fun I2 m1 m2 => ?_)
  refine z_aload_n G dX4_keep_16 rfl ?_
  refine z_iconst G (v := 1) dX4_keep_17 (by decide) ?_
  refine z_putI G fl_X4_23 ft_4_2 rfl rfl rfl dX4_keep_18 (by assumption) ?_
  exact z_vret G hq dX4_keep_21 (h _ (fun k hk => by rw [va_ne' (by omega), m1 k (by omega), f1 k (by omega)]) (by rw [va_at' rfl, va_at' rfl]) (f2.congr (fun k _ _ => by rw [va_ne' (by omega), m1 k (by omega)])) (m2.congr x6 v2.2.2 v4.2 (fun _ _ _ => rfl) (fun k _ _ => va_ne' (by omega))))
set_option maxHeartbeats 1000000 in
set_option maxRecDepth 20000 in
theorem k_X9_image {E : pmE} {d : Nat} {S : pmS} {I : pmI} {P : pmP} {R : Option Value → pmS → pmI → pmP → Prop} (hX : XG S P) {n T t c : Nat} {w : Nat → Int32} (hD : DR I P 30 w T c) (hV : Vd w n T t c) (hW : WR I 27 w n) {k : Int32} (hb : (¬ ∃ q : Nat, k.toInt = (q : Int) ∧ q < 2) → R (some (.int (-1000001))) S I P) (hok : ∀ q : Nat, k.toInt = (q : Int) → q < 2 → ∀ I', (∀ k, k < 612 + 24 * q ∨ 636 + 24 * q ≤ k → I' k = I k) → I' (612 + 24 * q) 2 = 1 → WR I' (613 + 24 * q) w n → DR I' P (616 + 24 * q) w T c → R (some (.int 1)) S I' P) : pmX E (d + 4) 0 0 yX9_image [rr E 0, .int k] S I P R := by
  refine pm_of (by decide) cd_X9_image (by decide) (by decide) (Nat.le_of_ble_eq_true rfl) ?_
  intro C G hq
  obtain ⟨⟨a0, a1, a2, a3, a4, a5, a6, a7, a8⟩, hRG, hRdG, hWG, hDG, ⟨z1, z2, z3, z4⟩, hIG, hFG, hAG⟩ := id hX
  obtain ⟨v1, v2, v3, v4, v5, v6, v7, v8⟩ := id hV
  refine z_iload_n G dX9_image_0 rfl ?_
  refine z_if_lt G 13 dX9_image_1 (by decide) (fun b1 => ?_) (fun b1 => ?_)
  · refine z_ldc G ct_X9_73 dX9_image_13 ?_
    exact z_iret G hq dX9_image_15 (hb (fun ⟨q, q1, q2⟩ => by simp only [ti_lt, ti_le, Int32.reduceToInt] at *; omega))
  · refine z_iload_n G dX9_image_4 rfl ?_
    refine z_aload_n G dX9_image_5 rfl ?_
    refine z_getR G fl_X9_45 rfl dX9_image_6 (by assumption) (by assumption) ?_
    refine z_alen G 3 (v := 2) rfl (by decide) dX9_image_9 hIG.1 (by decide) ?_
    refine z_icmp_lt G 16 dX9_image_10 (by decide) (fun b10 => ?_) (fun b10 => ?_)
    · obtain ⟨q, hq1, hq2⟩ : ∃ q : Nat, k.toInt = (q : Int) ∧ q < 2 := ⟨k.toInt.toNat, by simp only [ti_lt, ti_le, Int32.reduceToInt] at *; omega, by simp only [ti_lt, ti_le, Int32.reduceToInt] at *; omega⟩
      refine z_aload_n G dX9_image_16 rfl ?_
      refine z_V G lk_X9_142 dX9_image_17 [] rfl rfl rfl (Nat.le_of_ble_eq_true rfl) ⟨Nat.le_refl _, Nat.le_refl _⟩ (by assumption) ?_
      refine k_X9_stands hX (by rw [hW.1]; exact v1.1) (fun _ => ?_) (fun q => absurd q (by omega))
      refine z_if_ne G 26 dX9_image_20 (by decide) (fun _ => ?_) (fun c => absurd c (by decide))
      refine z_aload_n G dX9_image_26 rfl ?_
      refine z_getR G fl_X9_45 rfl dX9_image_27 (by assumption) (by assumption) ?_
      refine z_iload_n G dX9_image_30 rfl ?_
      refine z_aald G 3 (q) rfl (by decide) dX9_image_31 hIG.1 (hq1) (by omega) (hIG.2 q hq2).1 ?_
      refine z_aload_n G dX9_image_32 rfl ?_
      refine z_getR G fl_X9_25 rfl dX9_image_33 (by assumption) (by assumption) ?_
      refine z_aload_n G dX9_image_36 rfl ?_
      refine z_getR G fl_X9_32 rfl dX9_image_37 (by assumption) (by assumption) ?_
      refine z_V G lk_X9_284 dX9_image_40 [_, _] rfl rfl rfl (Nat.le_of_ble_eq_true rfl) ⟨Nat.le_refl _, Nat.le_refl _⟩ (hIG.2 q hq2).2.1 ?_
      refine k_X4_keep hX hq2 hD hV hW (fun I' f1 f2 f3 f4 => ?_)
      refine z_iconst G (v := 1) dX9_image_43 (by decide) ?_
      exact z_iret G hq dX9_image_44 (hok q hq1 hq2 I' f1 f2 f3 f4)
    · refine z_ldc G ct_X9_73 dX9_image_13 ?_
      exact z_iret G hq dX9_image_15 (hb (fun ⟨q, q1, q2⟩ => by simp only [ti_lt, ti_le, Int32.reduceToInt] at *; omega))
set_option maxHeartbeats 1000000 in
set_option maxRecDepth 20000 in
theorem k_X9_image0 {E : pmE} {d : Nat} {S : pmS} {I : pmI} {P : pmP} {R : Option Value → pmS → pmI → pmP → Prop} (hX : XG S P) (hn : I 27 2 = 0) {k : Int32} (hb : (¬ ∃ q : Nat, k.toInt = (q : Int) ∧ q < 2) → R (some (.int (-1000001))) S I P) (hs : ∀ q : Nat, k.toInt = (q : Int) → q < 2 → R (some (.int (-1000002))) S I P) : pmX E (d + 4) 0 0 yX9_image [rr E 0, .int k] S I P R := by
  refine pm_of (by decide) cd_X9_image (by decide) (by decide) (Nat.le_of_ble_eq_true rfl) ?_
  intro C G hq
  obtain ⟨⟨a0, a1, a2, a3, a4, a5, a6, a7, a8⟩, hRG, hRdG, hWG, hDG, ⟨z1, z2, z3, z4⟩, hIG, hFG, hAG⟩ := id hX
  refine z_iload_n G dX9_image_0 rfl ?_
  refine z_if_lt G 13 dX9_image_1 (by decide) (fun b1 => ?_) (fun b1 => ?_)
  · refine z_ldc G ct_X9_73 dX9_image_13 ?_
    exact z_iret G hq dX9_image_15 (hb (fun ⟨q, q1, q2⟩ => by simp only [ti_lt, ti_le, Int32.reduceToInt] at *; omega))
  · refine z_iload_n G dX9_image_4 rfl ?_
    refine z_aload_n G dX9_image_5 rfl ?_
    refine z_getR G fl_X9_45 rfl dX9_image_6 (by assumption) (by assumption) ?_
    refine z_alen G 3 (v := 2) rfl (by decide) dX9_image_9 hIG.1 (by decide) ?_
    refine z_icmp_lt G 16 dX9_image_10 (by decide) (fun b10 => ?_) (fun b10 => ?_)
    · obtain ⟨q, hq1, hq2⟩ : ∃ q : Nat, k.toInt = (q : Int) ∧ q < 2 := ⟨k.toInt.toNat, by simp only [ti_lt, ti_le, Int32.reduceToInt] at *; omega, by simp only [ti_lt, ti_le, Int32.reduceToInt] at *; omega⟩
      refine z_aload_n G dX9_image_16 rfl ?_
      refine z_V G lk_X9_142 dX9_image_17 [] rfl rfl rfl (Nat.le_of_ble_eq_true rfl) ⟨Nat.le_refl _, Nat.le_refl _⟩ (by assumption) ?_
      refine k_X9_stands hX (n := 0) (by rw [hn]; rfl) (fun q => absurd q (by omega)) (fun _ => ?_)
      refine z_if_ne G 26 dX9_image_20 (by decide) (fun c => absurd c (by decide)) (fun _ => ?_)
      refine z_ldc G ct_X9_145 dX9_image_23 ?_
      exact z_iret G hq dX9_image_25 (hs q hq1 hq2)
    · refine z_ldc G ct_X9_73 dX9_image_13 ?_
      exact z_iret G hq dX9_image_15 (hb (fun ⟨q, q1, q2⟩ => by simp only [ti_lt, ti_le, Int32.reduceToInt] at *; omega))
set_option maxHeartbeats 1000000 in
set_option maxRecDepth 20000 in
theorem k_X9_restore {E : pmE} {d : Nat} {S : pmS} {I : pmI} {P : pmP} {R : Option Value → pmS → pmI → pmP → Prop} (hX : XG S P) {k : Int32} (hb : (¬ ∃ q : Nat, k.toInt = (q : Int) ∧ q < 2) → R (some (.int (-1000001))) S I P) (hs : ∀ q : Nat, k.toInt = (q : Int) → q < 2 → I (612 + 24 * q) 2 = 0 → R (some (.int (-1000002))) S I P) (hR : ∀ q : Nat, q < 2 → ¬ I (612 + 24 * q) 2 = 0 → ∃ (w : Nat → Int32) (n T t c : Nat), WR I (613 + 24 * q) w n ∧ DR I P (616 + 24 * q) w T c ∧ Vd w n T t c ∧ (k.toInt = (q : Int) → ∀ I', (∀ k, k < 27 ∨ 50 < k → I' k = I k) → I' 50 1 = I 50 1 → I' 50 2 = 0 → WR I' 27 w n → DR I' P 30 w T c → R (some (.int 1)) S I' P)) : pmX E (d + 3) 0 0 yX9_restore [rr E 0, .int k] S I P R := by
  refine pm_of (by decide) cd_X9_restore (by decide) (by decide) (Nat.le_of_ble_eq_true rfl) ?_
  intro C G hq
  obtain ⟨⟨a0, a1, a2, a3, a4, a5, a6, a7, a8⟩, hRG, hRdG, hWG, hDG, ⟨z1, z2, z3, z4⟩, hIG, hFG, hAG⟩ := id hX
  refine z_iload_n G dX9_restore_0 rfl ?_
  refine z_if_lt G 13 dX9_restore_1 (by decide) (fun b1 => ?_) (fun b1 => ?_)
  · refine z_ldc G ct_X9_73 dX9_restore_13 ?_
    exact z_iret G hq dX9_restore_15 (hb (fun ⟨q, q1, q2⟩ => by simp only [ti_lt, ti_le, Int32.reduceToInt] at *; omega))
  · refine z_iload_n G dX9_restore_4 rfl ?_
    refine z_aload_n G dX9_restore_5 rfl ?_
    refine z_getR G fl_X9_45 rfl dX9_restore_6 (by assumption) (by assumption) ?_
    refine z_alen G 3 (v := 2) rfl (by decide) dX9_restore_9 hIG.1 (by decide) ?_
    refine z_icmp_lt G 16 dX9_restore_10 (by decide) (fun b10 => ?_) (fun b10 => ?_)
    · obtain ⟨q, hq1, hq2⟩ : ∃ q : Nat, k.toInt = (q : Int) ∧ q < 2 := ⟨k.toInt.toNat, by simp only [ti_lt, ti_le, Int32.reduceToInt] at *; omega, by simp only [ti_lt, ti_le, Int32.reduceToInt] at *; omega⟩
      obtain ⟨x1, x2, x3, x4, x5, x6⟩ := hIG.2 q hq2
      refine z_aload_n G dX9_restore_16 rfl ?_
      refine z_getR G fl_X9_45 rfl dX9_restore_17 (by assumption) (by assumption) ?_
      refine z_iload_n G dX9_restore_20 rfl ?_
      refine z_aald G 3 (q) rfl (by decide) dX9_restore_21 hIG.1 (hq1) (by omega) x1 ?_
      refine z_getI G fl_X9_288 rfl dX9_restore_22 x2 ?_
      refine z_if_ne G 31 dX9_restore_25 (by decide) (fun b25 => ?_) (fun b25 => ?_)
      · obtain ⟨w, n, T, t, c, hW, hD, hV, hk⟩ := hR q hq2 b25
        obtain ⟨v1, v2, v3, v4, v5, v6, v7, v8⟩ := id hV
        refine z_aload_n G dX9_restore_31 rfl ?_
        refine z_getR G fl_X9_25 rfl dX9_restore_32 (by assumption) (by assumption) ?_
        refine z_aload_n G dX9_restore_35 rfl ?_
        refine z_getR G fl_X9_45 rfl dX9_restore_36 (by assumption) (by assumption) ?_
        refine z_iload_n G dX9_restore_39 rfl ?_
        refine z_aald G 3 (q) rfl (by decide) dX9_restore_40 hIG.1 (hq1) (by omega) x1 ?_
        refine z_getR G fl_X9_291 rfl dX9_restore_41 x2 x3 ?_
        refine z_V G lk_X9_125 dX9_restore_44 [_] rfl rfl rfl (Nat.le_of_ble_eq_true rfl) ⟨Nat.le_refl _, Nat.le_refl _⟩ hWG.1 ?_
        refine k_X8_become hWG x5 (by omega) hW v5 v1.2.2 (fun I1 f1 f2 => ?_)
        refine z_aload_n G dX9_restore_47 rfl ?_
        refine z_getR G fl_X9_32 rfl dX9_restore_48 (by assumption) (by assumption) ?_
        refine z_aload_n G dX9_restore_51 rfl ?_
        refine z_getR G fl_X9_45 rfl dX9_restore_52 (by assumption) (by assumption) ?_
        refine z_iload_n G dX9_restore_55 rfl ?_
        refine z_aald G 3 (q) rfl (by decide) dX9_restore_56 hIG.1 (hq1) (by omega) x1 ?_
        refine z_getR G fl_X9_292 rfl dX9_restore_57 x2 x4 ?_
        refine z_V G lk_X9_130 dX9_restore_60 [_] rfl rfl rfl (Nat.le_of_ble_eq_true rfl) ⟨Nat.le_refl _, Nat.le_refl _⟩ hDG.1.1 ?_
        refine k_X1_become hDG x6 (by omega) (hD.congr x6 v2.2.2 v4.2 (fun _ _ _ => rfl) (fun k _ _ => f1 k (by omega))) v2.1 v2.2.2 v4.1 v4.2 (fun i hi => (v6 i hi).l6) (fun i hi => (v7 i hi).l6) (fun I2 m1 m2 => ?_)
        refine z_aload_n G dX9_restore_63 rfl ?_
        refine z_getR G fl_X9_39 rfl dX9_restore_64 (by assumption) (by assumption) ?_
        refine z_V G lk_X9_133 dX9_restore_67 [] rfl rfl rfl (Nat.le_of_ble_eq_true rfl) ⟨Nat.le_refl _, Nat.le_refl _⟩ z1 ?_
        refine k_X3_forget z1 ?_
        refine z_iconst G (v := 1) dX9_restore_70 (by decide) ?_
        exact z_iret G hq dX9_restore_71 (hk hq1 _ (fun k hk => by rw [va_ne' (by omega), m1 k (by omega), f1 k (by omega)]) (by rw [va_at' rfl, va_ne' (by omega), m1 _ (by omega), f1 _ (by omega)]) (by rw [va_at' rfl, va_at' rfl]) (f2.congr (fun k _ _ => by rw [va_ne' (by omega), m1 k (by omega)])) (m2.congr hDG v2.2.2 v4.2 (fun _ _ _ => rfl) (fun k _ _ => va_ne' (by omega))))
      · refine z_ldc G ct_X9_145 dX9_restore_28 ?_
        exact z_iret G hq dX9_restore_30 (hs q hq1 hq2 b25)
    · refine z_ldc G ct_X9_73 dX9_restore_13 ?_
      exact z_iret G hq dX9_restore_15 (hb (fun ⟨q, q1, q2⟩ => by simp only [ti_lt, ti_le, Int32.reduceToInt] at *; omega))
set_option maxHeartbeats 1000000 in
set_option maxRecDepth 20000 in
theorem k_X9_kind {E : pmE} {d : Nat} {S : pmS} {I : pmI} {P : pmP} {R : Option Value → pmS → pmI → pmP → Prop} (hX : XG S P) {T c : Nat} {w : Nat → Int32} (hD : DR I P 30 w T c) (hT : (w 1).toInt = (T : Int)) (hT5 : T ≤ 5) {tab : Int32} (hb : (¬ ∃ i : Nat, tab.toInt = (i : Int) ∧ i < T) → R (some (.int (-1000001))) S I P) (hok : ∀ i : Nat, tab.toInt = (i : Int) → i < T → R (some (.int (w (44 + 10 * i)))) S I P) : pmX E (d + 1) 0 0 yX9_kind [rr E 0, .int tab] S I P R := by
  refine pm_of (by decide) cd_X9_kind (by decide) (by decide) (Nat.le_of_ble_eq_true rfl) ?_
  intro C G hq
  obtain ⟨⟨a0, a1, a2, a3, a4, a5, a6, a7, a8⟩, hRG, hRdG, hWG, hDG, ⟨z1, z2, z3, z4⟩, hIG, hFG, hAG⟩ := id hX
  refine z_aload_n G dX9_kind_0 rfl ?_
  refine z_getR G fl_X9_32 rfl dX9_kind_1 (by assumption) (by assumption) ?_
  refine z_iload_n G dX9_kind_4 rfl ?_
  refine z_V G lk_X9_170 dX9_kind_5 [_] rfl rfl rfl (Nat.le_of_ble_eq_true rfl) ⟨Nat.le_refl _, Nat.le_refl _⟩ hDG.1.1 ?_
  refine k_X1_hasTab hDG.1.1 (by rw [hD.1]; exact hT) hT5 ?_ ?_
  · intro i hi hiT
    refine z_if_eq G 26 dX9_kind_8 (by decide) (fun c => absurd c (by decide)) (fun _ => ?_)
    obtain ⟨tt, ht1, ht2, ht3, ht4⟩ := hDG.row (show i < 5 by omega)
    have hTR := hD.2.2.2.1 i hiT tt ht1
    refine z_aload_n G dX9_kind_11 rfl ?_
    refine z_getR G fl_X9_32 rfl dX9_kind_12 (by assumption) (by assumption) ?_
    refine z_getR G fl_X9_198 rfl dX9_kind_15 hDG.1.1 hDG.1.2.1 ?_
    refine z_iload_n G dX9_kind_18 rfl ?_
    refine z_aald G 5 (i) rfl (by decide) dX9_kind_19 hDG.1.2.2.2.2.1 (hi) (by omega) ht1 ?_
    refine z_getI G fl_X9_293 rfl dX9_kind_20 ht2.1 ?_
    refine z_goto G 28 dX9_kind_23 (by decide) ?_
    exact z_iret G hq dX9_kind_28 (by rw [hTR.1]; exact hok i hi hiT)
  · intro hno
    refine z_if_eq G 26 dX9_kind_8 (by decide) (fun _ => ?_) (fun c => absurd c (by decide))
    refine z_ldc G ct_X9_73 dX9_kind_26 ?_
    exact z_iret G hq dX9_kind_28 (hb hno)
set_option maxHeartbeats 1000000 in
set_option maxRecDepth 20000 in
theorem k_X9_as {E : pmE} {d : Nat} {S : pmS} {I : pmI} {P : pmP} {R : Option Value → pmS → pmI → pmP → Prop} (hX : XG S P) {T c : Nat} {w : Nat → Int32} (hD : DR I P 30 w T c) (hT : (w 1).toInt = (T : Int)) (hT5 : T ≤ 5) (hkd : ∀ i, i < T → ∃ kd : Nat, (w (44 + 10 * i)).toInt = (kd : Int) ∧ 1 ≤ kd ∧ kd ≤ 5) {tab kind : Int32} (hb : (¬ ∃ i k : Nat, tab.toInt = (i : Int) ∧ i < T ∧ kind.toInt = (k : Int) ∧ k ≤ 5) → R (some (.int (-1000001))) S I P) (hok : ∀ i k : Nat, tab.toInt = (i : Int) → i < T → kind.toInt = (k : Int) → k ≤ 5 → isK (w (44 + 10 * i)) kind → R (some (.int tab)) S (va_up I 0 (va_up (I 0) 8 0)) P) (hno : ∀ i k : Nat, tab.toInt = (i : Int) → i < T → kind.toInt = (k : Int) → k ≤ 5 → ¬ isK (w (44 + 10 * i)) kind → R (some (.int (-1000010 - 3))) S (va_up I 0 (va_up (I 0) 8 3)) P) : pmX E (d + 1) 0 0 yX9_as [rr E 0, .int tab, .int kind] S I P R := by
  refine pm_of (by decide) cd_X9_as (by decide) (by decide) (Nat.le_of_ble_eq_true rfl) ?_
  intro C G hq
  obtain ⟨⟨a0, a1, a2, a3, a4, a5, a6, a7, a8⟩, hRG, hRdG, hWG, hDG, ⟨z1, z2, z3, z4⟩, hIG, hFG, hAG⟩ := id hX
  refine z_aload_n G dX9_as_0 rfl ?_
  refine z_getR G fl_X9_32 rfl dX9_as_1 (by assumption) (by assumption) ?_
  refine z_iload_n G dX9_as_4 rfl ?_
  refine z_V G lk_X9_170 dX9_as_5 [_] rfl rfl rfl (Nat.le_of_ble_eq_true rfl) ⟨Nat.le_refl _, Nat.le_refl _⟩ hDG.1.1 ?_
  refine k_X1_hasTab hDG.1.1 (by rw [hD.1]; exact hT) hT5 ?_ ?_
  · intro i hi hiT
    refine z_if_eq G 20 dX9_as_8 (by decide) (fun c => absurd c (by decide)) (fun _ => ?_)
    refine z_iload_n G dX9_as_11 rfl ?_
    refine z_if_lt G 20 dX9_as_12 (by decide) (fun b12 => ?_) (fun b12 => ?_)
    · refine z_ldc G ct_X9_73 dX9_as_20 ?_
      exact z_iret G hq dX9_as_22 (hb (fun ⟨i, k, _, _, q1, q2⟩ => by simp only [ti_lt, ti_le, Int32.reduceToInt] at *; omega))
    · refine z_iload_n G dX9_as_15 rfl ?_
      refine z_iconst G (v := 5) dX9_as_16 (by decide) ?_
      refine z_icmp_le G 23 dX9_as_17 (by decide) (fun b17 => ?_) (fun b17 => ?_)
      · obtain ⟨tt, ht1, ht2, ht3, ht4⟩ := hDG.row (show i < 5 by omega)
        have hTR := hD.2.2.2.1 i hiT tt ht1
        obtain ⟨k, hk1, hk2⟩ : ∃ k : Nat, kind.toInt = (k : Int) ∧ k ≤ 5 := ⟨kind.toInt.toNat, by simp only [ti_lt, ti_le, Int32.reduceToInt] at *; omega, by simp only [ti_lt, ti_le, Int32.reduceToInt] at *; omega⟩
        obtain ⟨kd, hkd1, hkd2, hkd3⟩ := hkd i hiT
        refine z_aload_n G dX9_as_23 rfl ?_
        refine z_getR G fl_X9_32 rfl dX9_as_24 (by assumption) (by assumption) ?_
        refine z_getR G fl_X9_198 rfl dX9_as_27 hDG.1.1 hDG.1.2.1 ?_
        refine z_iload_n G dX9_as_30 rfl ?_
        refine z_aald G 5 (i) rfl (by decide) dX9_as_31 hDG.1.2.2.2.2.1 (hi) (by omega) ht1 ?_
        refine z_iload_n G dX9_as_32 rfl ?_
        refine z_V G lk_X9_296 dX9_as_33 [_] rfl rfl rfl (Nat.le_of_ble_eq_true rfl) ⟨Nat.le_refl _, Nat.le_refl _⟩ ht2.1 ?_
        refine k_X7_isOf ht2 (sd := kd) (by rw [hTR.1]; exact hkd1) hkd2 hkd3 ?_ ?_
        · intro hk
          refine z_if_ne G 45 dX9_as_36 (by decide) (fun _ => ?_) (fun c => absurd c (by decide))
          refine z_aload_n G dX9_as_45 rfl ?_
          refine z_iconst G (v := 0) dX9_as_46 (by decide) ?_
          refine z_putI G fl_X9_63 ft_9_8 rfl rfl rfl dX9_as_47 (by assumption) ?_
          refine z_iload_n G dX9_as_50 rfl ?_
          exact z_iret G hq dX9_as_51 (hok i k hi hiT hk1 hk2 (by rw [← hTR.1]; exact hk))
        · intro hk
          refine z_if_ne G 45 dX9_as_36 (by decide) (fun c => absurd c (by decide)) (fun _ => ?_)
          refine z_aload_n G dX9_as_39 rfl ?_
          refine z_iconst G (v := 3) dX9_as_40 (by decide) ?_
          refine z_V G lk_X9_74 dX9_as_41 [_] rfl rfl rfl (Nat.le_of_ble_eq_true rfl) ⟨Nat.le_refl _, Nat.le_refl _⟩ (by assumption) ?_
          refine k_X9_found hX ?_
          exact z_iret G hq dX9_as_44 (hno i k hi hiT hk1 hk2 (by rw [← hTR.1]; exact hk))
      · refine z_ldc G ct_X9_73 dX9_as_20 ?_
        exact z_iret G hq dX9_as_22 (hb (fun ⟨i, k, _, _, q1, q2⟩ => by simp only [ti_lt, ti_le, Int32.reduceToInt] at *; omega))
  · intro hnt
    refine z_if_eq G 20 dX9_as_8 (by decide) (fun _ => ?_) (fun c => absurd c (by decide))
    refine z_ldc G ct_X9_73 dX9_as_20 ?_
    exact z_iret G hq dX9_as_22 (hb (fun ⟨i, k, q1, q2, _⟩ => hnt ⟨i, q1, q2⟩))
set_option maxHeartbeats 1000000 in
set_option maxRecDepth 20000 in
theorem k_X9_tab {E : pmE} {d : Nat} {S : pmS} {I : pmI} {P : pmP} {R : Option Value → pmS → pmI → pmP → Prop} (hX : XG S P) {T c : Nat} {w : Nat → Int32} (hD : DR I P 30 w T c) (hT : (w 1).toInt = (T : Int)) (hT5 : T ≤ 5) {tab what : Int32} (hsn : ∀ i, i < T → ∃ s : Nat, (w (47 + 10 * i)).toInt = (s : Int) ∧ s < 6 ∧ (s : Int) < (w (46 + 10 * i)).toInt) (hb : (¬ ∃ i : Nat, tab.toInt = (i : Int) ∧ i < T) → R (some (.int (-1000001))) S I P) (h0 : ∀ i s : Nat, tab.toInt = (i : Int) → i < T → (w (47 + 10 * i)).toInt = (s : Int) → s < 6 → what = 0 → R (some (.int (w (48 + 10 * i + s)))) S I P) (h1 : ∀ i : Nat, tab.toInt = (i : Int) → i < T → what = 1 → R (some (.int (w (45 + 10 * i)))) S I P) (h2 : ∀ i : Nat, tab.toInt = (i : Int) → i < T → what = 2 → R (some (.int (w (46 + 10 * i)))) S I P) (h3 : ∀ i : Nat, tab.toInt = (i : Int) → i < T → what = 3 → R (some (.int (w (47 + 10 * i)))) S I P) (h4 : ∀ i : Nat, tab.toInt = (i : Int) → i < T → (what.toInt < 0 ∨ 3 < what.toInt) → R (some (.int (-1000001))) S I P) : pmX E (d + 1) 0 0 yX9_tab [rr E 0, .int tab, .int what] S I P R := by
  refine pm_of (by decide) cd_X9_tab (by decide) (by decide) (Nat.le_of_ble_eq_true rfl) ?_
  intro C G hq
  obtain ⟨⟨a0, a1, a2, a3, a4, a5, a6, a7, a8⟩, hRG, hRdG, hWG, hDG, ⟨z1, z2, z3, z4⟩, hIG, hFG, hAG⟩ := id hX
  refine z_aload_n G dX9_tab_0 rfl ?_
  refine z_getR G fl_X9_32 rfl dX9_tab_1 (by assumption) (by assumption) ?_
  refine z_iload_n G dX9_tab_4 rfl ?_
  refine z_V G lk_X9_170 dX9_tab_5 [_] rfl rfl rfl (Nat.le_of_ble_eq_true rfl) ⟨Nat.le_refl _, Nat.le_refl _⟩ hDG.1.1 ?_
  refine k_X1_hasTab hDG.1.1 (by rw [hD.1]; exact hT) hT5 ?_ ?_
  · intro i hi hiT
    refine z_if_ne G 14 dX9_tab_8 (by decide) (fun _ => ?_) (fun c => absurd c (by decide))
    obtain ⟨tt, ht1, ht2, ht3, ht4⟩ := hDG.row (show i < 5 by omega)
    have hTR := hD.2.2.2.1 i hiT tt ht1
    obtain ⟨s, hs1, hs2, hs3⟩ := hsn i hiT
    obtain ⟨q1, q2, q3, q4, q5⟩ := hTR
    rw [show 44 + 10 * i + 1 = 45 + 10 * i by omega] at q2
    rw [show 44 + 10 * i + 2 = 46 + 10 * i by omega] at q3 q5
    rw [show 44 + 10 * i + 3 = 47 + 10 * i by omega] at q4
    have q6 := q5 s hs3
    rw [show 44 + 10 * i + 4 + s = 48 + 10 * i + s by omega] at q6
    refine z_aload_n G dX9_tab_14 rfl ?_
    refine z_getR G fl_X9_32 rfl dX9_tab_15 (by assumption) (by assumption) ?_
    refine z_getR G fl_X9_198 rfl dX9_tab_18 hDG.1.1 hDG.1.2.1 ?_
    refine z_iload_n G dX9_tab_21 rfl ?_
    refine z_aald G 5 (i) rfl (by decide) dX9_tab_22 hDG.1.2.2.2.2.1 (hi) (by omega) ht1 ?_
    refine z_astore_n G dX9_tab_23 (Nat.le_of_ble_eq_true rfl) rfl ?_
    refine z_iload_n G dX9_tab_24 rfl ?_
    have hsw : (what.toInt < 0 ∨ 3 < what.toInt) ∨ what = 0 ∨ what = 1 ∨ what = 2 ∨ what = 3 := by simp only [ti_eq, Int32.reduceToInt]; omega
    rcases hsw with e | e | e | e | e
    · refine z_tout G 76 dX9_tab_25 e (by decide) ?_
      refine z_ldc G ct_X9_73 dX9_tab_76 ?_
      exact z_iret G hq dX9_tab_78 (h4 i hi hiT e)
    · refine z_tin G 56 dX9_tab_25 (by rw [e]; decide) (by rw [e]; decide) (by rw [e]; rfl) (by decide) ?_
      refine z_aload_n G dX9_tab_56 rfl ?_
      refine z_V G lk_X9_202 dX9_tab_57 [] rfl rfl rfl (Nat.le_of_ble_eq_true rfl) ⟨Nat.le_refl _, Nat.le_refl _⟩ ht2.1 ?_
      refine k_X7_shownPage ht2 (by rw [q4]; exact hs1) hs2 ?_
      exact z_iret G hq dX9_tab_60 (by rw [q6]; exact h0 i s hi hiT hs1 hs2 e)
    · refine z_tin G 61 dX9_tab_25 (by rw [e]; decide) (by rw [e]; decide) (by rw [e]; rfl) (by decide) ?_
      refine z_aload_n G dX9_tab_61 rfl ?_
      refine z_getI G fl_X9_205 rfl dX9_tab_62 ht2.1 ?_
      exact z_iret G hq dX9_tab_65 (by rw [q2]; exact h1 i hi hiT e)
    · refine z_tin G 66 dX9_tab_25 (by rw [e]; decide) (by rw [e]; decide) (by rw [e]; rfl) (by decide) ?_
      refine z_aload_n G dX9_tab_66 rfl ?_
      refine z_getI G fl_X9_208 rfl dX9_tab_67 ht2.1 ?_
      exact z_iret G hq dX9_tab_70 (by rw [q3]; exact h2 i hi hiT e)
    · refine z_tin G 71 dX9_tab_25 (by rw [e]; decide) (by rw [e]; decide) (by rw [e]; rfl) (by decide) ?_
      refine z_aload_n G dX9_tab_71 rfl ?_
      refine z_getI G fl_X9_209 rfl dX9_tab_72 ht2.1 ?_
      exact z_iret G hq dX9_tab_75 (by rw [q4]; exact h3 i hi hiT e)
  · intro hnt
    refine z_if_ne G 14 dX9_tab_8 (by decide) (fun c => absurd c (by decide)) (fun _ => ?_)
    refine z_ldc G ct_X9_73 dX9_tab_11 ?_
    exact z_iret G hq dX9_tab_13 (hb hnt)
set_option maxHeartbeats 1000000 in
set_option maxRecDepth 20000 in
theorem k_X9_trail {E : pmE} {d : Nat} {S : pmS} {I : pmI} {P : pmP} {R : Option Value → pmS → pmI → pmP → Prop} (hX : XG S P) {T c : Nat} {w : Nat → Int32} (hD : DR I P 30 w T c) (hT : (w 1).toInt = (T : Int)) (hT5 : T ≤ 5) {tab k : Int32} (hln : ∀ i, i < T → (w (46 + 10 * i)).toInt ≤ 6) (hb : (¬ ∃ i j : Nat, tab.toInt = (i : Int) ∧ i < T ∧ k.toInt = (j : Int)) → R (some (.int (-1000001))) S I P) (h1 : ∀ i j : Nat, tab.toInt = (i : Int) → i < T → k.toInt = (j : Int) → k < w (46 + 10 * i) → R (some (.int (w (48 + 10 * i + j)))) S I P) (h0 : ∀ i j : Nat, tab.toInt = (i : Int) → i < T → k.toInt = (j : Int) → ¬ k < w (46 + 10 * i) → R (some (.int (-1000000))) S I P) : pmX E (d + 1) 0 0 yX9_trail [rr E 0, .int tab, .int k] S I P R := by
  refine pm_of (by decide) cd_X9_trail (by decide) (by decide) (Nat.le_of_ble_eq_true rfl) ?_
  intro C G hq
  obtain ⟨⟨a0, a1, a2, a3, a4, a5, a6, a7, a8⟩, hRG, hRdG, hWG, hDG, ⟨z1, z2, z3, z4⟩, hIG, hFG, hAG⟩ := id hX
  refine z_aload_n G dX9_trail_0 rfl ?_
  refine z_getR G fl_X9_32 rfl dX9_trail_1 (by assumption) (by assumption) ?_
  refine z_iload_n G dX9_trail_4 rfl ?_
  refine z_V G lk_X9_170 dX9_trail_5 [_] rfl rfl rfl (Nat.le_of_ble_eq_true rfl) ⟨Nat.le_refl _, Nat.le_refl _⟩ hDG.1.1 ?_
  refine k_X1_hasTab hDG.1.1 (by rw [hD.1]; exact hT) hT5 ?_ ?_
  · intro i hi hiT
    refine z_if_eq G 15 dX9_trail_8 (by decide) (fun c => absurd c (by decide)) (fun _ => ?_)
    refine z_iload_n G dX9_trail_11 rfl ?_
    refine z_if_ge G 18 dX9_trail_12 (by decide) (fun b12 => ?_) (fun b12 => ?_)
    · obtain ⟨tt, ht1, ht2, ht3, ht4⟩ := hDG.row (show i < 5 by omega)
      have hTR := hD.2.2.2.1 i hiT tt ht1
      obtain ⟨j, hj⟩ : ∃ j : Nat, k.toInt = (j : Int) := ⟨k.toInt.toNat, by simp only [ti_lt, ti_le, Int32.reduceToInt] at b12; omega⟩
      have hl6 := hln i hiT
      obtain ⟨q1, q2, q3, q4, q5⟩ := hTR
      rw [show 44 + 10 * i + 2 = 46 + 10 * i by omega] at q3 q5
      refine z_aload_n G dX9_trail_18 rfl ?_
      refine z_getR G fl_X9_32 rfl dX9_trail_19 (by assumption) (by assumption) ?_
      refine z_getR G fl_X9_198 rfl dX9_trail_22 hDG.1.1 hDG.1.2.1 ?_
      refine z_iload_n G dX9_trail_25 rfl ?_
      refine z_aald G 5 (i) rfl (by decide) dX9_trail_26 hDG.1.2.2.2.2.1 (hi) (by omega) ht1 ?_
      refine z_astore_n G dX9_trail_27 (Nat.le_of_ble_eq_true rfl) rfl ?_
      refine z_iload_n G dX9_trail_28 rfl ?_
      refine z_aload_n G dX9_trail_29 rfl ?_
      refine z_getI G fl_X9_208 rfl dX9_trail_30 ht2.1 ?_
      rw [q3]
      refine z_icmp_ge G 45 dX9_trail_33 (by decide) (fun b33 => ?_) (fun b33 => ?_)
      · refine z_ldc G ct_X9_215 dX9_trail_45 ?_
        exact z_iret G hq dX9_trail_47 (h0 i j hi hiT hj (by simp only [ti_lt, ti_le] at *; omega))
      · refine z_aload_n G dX9_trail_36 rfl ?_
        refine z_getR G fl_X9_212 rfl dX9_trail_37 ht2.1 ht2.2.1 ?_
        refine z_iload_n G dX9_trail_40 rfl ?_
        simp only [ti_le, hj] at b33
        refine z_iald G (j) dX9_trail_41 ht2.2.2 (hj) (by omega) ?_
        refine z_goto G 47 dX9_trail_42 (by decide) ?_
        exact z_iret G hq dX9_trail_47 (by have q6 := q5 j (by omega); rw [show 44 + 10 * i + 4 + j = 48 + 10 * i + j by omega] at q6; rw [q6]; exact h1 i j hi hiT hj (by simp only [ti_lt, ti_le] at *; omega))
    · refine z_ldc G ct_X9_73 dX9_trail_15 ?_
      exact z_iret G hq dX9_trail_17 (hb (fun ⟨i, j, _, _, q1⟩ => b12 (by simp only [ti_lt, ti_le, Int32.reduceToInt]; omega)))
  · intro hnt
    refine z_if_eq G 15 dX9_trail_8 (by decide) (fun _ => ?_) (fun c => absurd c (by decide))
    refine z_ldc G ct_X9_73 dX9_trail_15 ?_
    exact z_iret G hq dX9_trail_17 (hb (fun ⟨i, j, q1, q2, _⟩ => hnt ⟨i, q1, q2⟩))
