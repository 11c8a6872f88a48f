set_option maxHeartbeats 1000000 in
set_option maxRecDepth 20000 in
theorem k_X10_follow {E : pmE} {d : Nat} {S : pmS} {I : pmI} {P : pmP} {R : Option Value → pmS → pmI → pmP → Prop} {m : Nat} (hM : MG S P m) {n T t c a : Nat} (hV : Vd (I (m + 6)) n T t c) (ha : (I m 17).toInt = (a : Int)) (ha24 : a ≤ 24) {s0 p0 cn : Nat} {j : Int32} (hN0 : Nw (I (m + 6)) t s0 p0) (hc : (I (m + 6) (4 + 5 * p0)).toInt = (cn : Int)) (hb : (¬ ∃ jn : Nat, j.toInt = (jn : Int) ∧ jn < 3) → R (some (.int (-1000001))) S I P) (hs : ¬ (0 ≤ j.toInt ∧ j.toInt < (cn : Int) ∧ (¬ I (m + 6) (44 + 10 * t) = 3 ∨ T < 5)) → (∃ jn : Nat, j.toInt = (jn : Int) ∧ jn < 3) → R (some (.int (-1000002))) S I P) (hok : ∀ jn : Nat, j.toInt = (jn : Int) → jn < cn → (¬ I (m + 6) (44 + 10 * t) = 3 ∨ T < 5) → ∀ I', ActM I I' m a (followsF (I (m + 6)) T t s0 p0 jn) → R (some (.int (shwF (followsF (I (m + 6)) T t s0 p0 jn)))) S I' P) : pmX E (d + 4) 0 0 yX10_follow [rr E m, .int j] S I P R := by
  refine pm_of (by decide) cd_X10_follow (by decide) (by decide) (Nat.le_of_ble_eq_true rfl) ?_
  intro C G hq
  obtain ⟨g0, ⟨r0, r1, r2, r3, r4, r5, r6, r7, r8, r9, r10, r11, r12, r13, r14⟩, ⟨s1, s2, s3, s4, s5, s6, s7, s8, s9, s10, s11, s12, s13, s14, s15⟩⟩ := id hM
  obtain ⟨v1, v2, v3, v4, v5, v6, v7, v8⟩ := id hV
  obtain ⟨s, p, hN, hpn⟩ := hV.nw
  obtain rfl : s = s0 := by have a1 := hN.2.2.1; have a2 := hN0.2.2.1; omega
  obtain rfl : p = p0 := by have a1 := hN.2.2.2.2.1; have a2 := hN0.2.2.2.2.1; omega
  refine z_aload_n G dX10_follow_0 rfl ?_
  refine z_V G lk_X10_179 dX10_follow_1 [] rfl rfl rfl (Nat.le_of_ble_eq_true rfl) ⟨Nat.le_refl _, Nat.le_refl _⟩ (by assumption) ?_
  refine k_X10_isWeb hM v1.1 (fun _ => ?_) (fun q => absurd q (by omega))
  refine z_if_ne G 10 dX10_follow_4 (by decide) (fun _ => ?_) (fun c => absurd c (by decide))
  refine z_iload_n G dX10_follow_10 rfl ?_
  refine z_iconst G (v := 0) dX10_follow_11 (by decide) ?_
  refine z_iconst G (v := 2) dX10_follow_12 (by decide) ?_
  refine z_S G lk_X10_62 dX10_follow_13 [_, _, _] rfl rfl rfl (Nat.le_of_ble_eq_true rfl) ⟨Nat.le_refl _, Nat.le_refl _⟩ ?_
  refine k_X10_in ?_ ?_
  · intro hin
    refine z_if_ne G 22 dX10_follow_16 (by decide) (fun _ => ?_) (fun c => absurd c (by decide))
    obtain ⟨jn, hj, hj3⟩ : ∃ jn : Nat, j.toInt = (jn : Int) ∧ jn < 3 := ⟨j.toInt.toNat, by simp only [ti_lt, ti_le, Int32.reduceToInt] at hin; omega, by simp only [ti_lt, ti_le, Int32.reduceToInt] at hin; omega⟩
    refine z_aload_n G dX10_follow_22 rfl ?_
    refine z_getR G fl_X10_25 rfl dX10_follow_23 (by assumption) (by assumption) ?_
    refine z_iload_n G dX10_follow_26 rfl ?_
    refine z_S G lk_X10_183 dX10_follow_27 [_, _] rfl rfl rfl (Nat.le_of_ble_eq_true rfl) ⟨Nat.le_refl _, Nat.le_refl _⟩ ?_
    refine k_X10_mayFollow s6 hN ?_ ?_
    · intro hm
      refine z_if_ne G 36 dX10_follow_30 (by decide) (fun _ => ?_) (fun c => absurd c (by decide))
      have hjc : jn < cn := by have := hm.1; simp only [ti_lt, hj, hc] at this; omega
      have hm2 : ¬ I (m + 6) (44 + 10 * t) = 3 ∨ T < 5 := hm.2.imp id (fun z => by simp only [ti_lt, ti_le, Int32.reduceToInt, v2.1] at z; omega)
      refine z_aload_n G dX10_follow_36 rfl ?_
      refine z_V G lk_X10_187 dX10_follow_37 [] rfl rfl rfl (Nat.le_of_ble_eq_true rfl) ⟨Nat.le_refl _, Nat.le_refl _⟩ (by assumption) ?_
      refine k_X10_notes hM ha ha24 (fun I1 f1 f2 f3 f4 => ?_)
      have hw : I1 (m + 6) = I (m + 6) := f1 _ (by omega) (by omega)
      refine z_aload_n G dX10_follow_40 rfl ?_
      refine z_getR G fl_X10_25 rfl dX10_follow_41 (by assumption) (by assumption) ?_
      refine z_iload_n G dX10_follow_44 rfl ?_
      refine z_S G lk_X10_190 dX10_follow_45 [_, _] rfl rfl rfl (Nat.le_of_ble_eq_true rfl) ⟨Nat.le_refl _, Nat.le_refl _⟩ ?_
      refine k_X10_follows (s := s) (p := p) s6 (by rw [hw]; exact hV) (by rw [hw]; exact hN) hpn hj (by rw [hw]; exact hc) hjc (by rw [hw]; exact hm2) ?_
      rw [hw]
      have hV2 := hV.follows' hN.2.2.1 hpn hc hjc hm2
      obtain ⟨s3, p3, hN3, hp3⟩ := hV2.nw
      refine z_aload_n G dX10_follow_48 rfl ?_
      refine z_getR G fl_X10_25 rfl dX10_follow_49 (by assumption) (by assumption) ?_
      refine z_S G lk_X10_157 dX10_follow_52 [_] rfl rfl rfl (Nat.le_of_ble_eq_true rfl) ⟨Nat.le_refl _, Nat.le_refl _⟩ ?_
      refine k_X10_seen s6 (by rw [va_up_self]; exact hN3) ?_
      rw [va_up_self, ← hN3.shw]
      exact z_iret G hq dX10_follow_55 (hok jn hj hjc hm2 _ ⟨fun k k1 k2 k3 => by rw [va_ne' k2]; exact f1 k k1 k3, fun j hj => by rw [va_ne' (by omega)]; exact f2 j hj, by rw [va_ne' (by omega)]; exact f3, by rw [va_ne' (by omega)]; exact f4, va_up_self ..⟩)
    · intro hm
      refine z_if_ne G 36 dX10_follow_30 (by decide) (fun c => absurd c (by decide)) (fun _ => ?_)
      refine z_ldc G ct_X10_182 dX10_follow_33 ?_
      exact z_iret G hq dX10_follow_35 (hs (fun q => hm ⟨by simp only [ti_lt, hj, hc]; omega, q.2.2.imp id (fun z => by simp only [ti_lt, ti_le, Int32.reduceToInt, v2.1]; omega)⟩) ⟨jn, hj, hj3⟩)
  · intro hin
    refine z_if_ne G 22 dX10_follow_16 (by decide) (fun c => absurd c (by decide)) (fun _ => ?_)
    refine z_ldc G ct_X10_70 dX10_follow_19 ?_
    exact z_iret G hq dX10_follow_21 (hb (fun ⟨k, q1, q2⟩ => hin (by simp only [ti_lt, ti_le, Int32.reduceToInt]; omega)))
set_option maxHeartbeats 1000000 in
set_option maxRecDepth 20000 in
theorem k_X10_turned {E : pmE} {d : Nat} {S : pmS} {I : pmI} {P : pmP} {R : Option Value → pmS → pmI → pmP → Prop} {m : Nat} (hM : MG S P m) {n T t c a : Nat} (hV : Vd (I (m + 6)) n T t c) (ha : (I m 17).toInt = (a : Int)) (ha24 : a ≤ 24) {way : Int32} (hs : ¬ (¬ I (m + 6) (44 + 10 * t) = 5 ∧ (if way = 0 then 0 < I (m + 6) (47 + 10 * t) else I (m + 6) (47 + 10 * t) + 1 < I (m + 6) (46 + 10 * t))) → R (some (.int (-1000002))) S I P) (hok : ¬ I (m + 6) (44 + 10 * t) = 5 ∧ (if way = 0 then 0 < I (m + 6) (47 + 10 * t) else I (m + 6) (47 + 10 * t) + 1 < I (m + 6) (46 + 10 * t)) → ∀ I', ActM I I' m a (goesF (I (m + 6)) t way) → R (some (.int (shwF (goesF (I (m + 6)) t way)))) S I' P) : pmX E (d + 3) 0 0 yX10_turned [rr E m, .int way] S I P R := by
  refine pm_of (by decide) cd_X10_turned (by decide) (by decide) (Nat.le_of_ble_eq_true rfl) ?_
  intro C G hq
  obtain ⟨g0, ⟨r0, r1, r2, r3, r4, r5, r6, r7, r8, r9, r10, r11, r12, r13, r14⟩, ⟨s1, s2, s3, s4, s5, s6, s7, s8, s9, s10, s11, s12, s13, s14, s15⟩⟩ := id hM
  obtain ⟨v1, v2, v3, v4, v5, v6, v7, v8⟩ := id hV
  obtain ⟨s, p, hN, hpn⟩ := hV.nw
  refine z_aload_n G dX10_turned_0 rfl ?_
  refine z_V G lk_X10_179 dX10_turned_1 [] rfl rfl rfl (Nat.le_of_ble_eq_true rfl) ⟨Nat.le_refl _, Nat.le_refl _⟩ (by assumption) ?_
  refine k_X10_isWeb hM v1.1 (fun _ => ?_) (fun q => absurd q (by omega))
  refine z_if_eq G 18 dX10_turned_4 (by decide) (fun c => absurd c (by decide)) (fun _ => ?_)
  refine z_aload_n G dX10_turned_7 rfl ?_
  refine z_getR G fl_X10_25 rfl dX10_turned_8 (by assumption) (by assumption) ?_
  refine z_iload_n G dX10_turned_11 rfl ?_
  refine z_S G lk_X10_193 dX10_turned_12 [_, _] rfl rfl rfl (Nat.le_of_ble_eq_true rfl) ⟨Nat.le_refl _, Nat.le_refl _⟩ ?_
  refine k_X10_mayGo s6 v3.1 (by omega) ?_ ?_
  · intro hm
    refine z_if_ne G 21 dX10_turned_15 (by decide) (fun _ => ?_) (fun c => absurd c (by decide))
    refine z_aload_n G dX10_turned_21 rfl ?_
    refine z_V G lk_X10_187 dX10_turned_22 [] rfl rfl rfl (Nat.le_of_ble_eq_true rfl) ⟨Nat.le_refl _, Nat.le_refl _⟩ (by assumption) ?_
    refine k_X10_notes hM ha ha24 (fun I1 f1 f2 f3 f4 => ?_)
    have hw : I1 (m + 6) = I (m + 6) := f1 _ (by omega) (by omega)
    refine z_aload_n G dX10_turned_25 rfl ?_
    refine z_getR G fl_X10_25 rfl dX10_turned_26 (by assumption) (by assumption) ?_
    refine z_iload_n G dX10_turned_29 rfl ?_
    refine z_S G lk_X10_196 dX10_turned_30 [_, _] rfl rfl rfl (Nat.le_of_ble_eq_true rfl) ⟨Nat.le_refl _, Nat.le_refl _⟩ ?_
    refine k_X10_goes s6 (by rw [hw]; exact v3.1) (by omega) ?_
    rw [hw]
    obtain ⟨kd, ho, l, s9, u1, u2, u3, u4, u5, u6, u7, u8, u9, u10, u11⟩ := v6 t v3.2
    have hgo : if way = 0 then 0 < s else s + 1 < l := by
      have hl : (I (m + 6) (46 + 10 * t)).toInt = (l : Int) := by rw [show 46 + 10 * t = 44 + 10 * t + 2 by omega]; exact u6
      by_cases hw0 : way = 0
      · have := hm.2; rw [if_pos hw0] at this ⊢; simp only [ti_lt, Int32.reduceToInt, hN.2.2.1] at this; omega
      · have := hm.2; rw [if_neg hw0] at this ⊢; have hs6 := hN.2.2.2.1; rw [iN_of hN.2.2.1, iN_of hl, iN_lit, iN_add, iN_lt (by omega) (by omega)] at this; exact this
    have hV2 := hV.goes hN.2.2.1 (by rw [show 46 + 10 * t = 44 + 10 * t + 2 by omega]; exact u6) hgo
    obtain ⟨s3, p3, hN3, hp3⟩ := hV2.nw
    refine z_aload_n G dX10_turned_33 rfl ?_
    refine z_getR G fl_X10_25 rfl dX10_turned_34 (by assumption) (by assumption) ?_
    refine z_S G lk_X10_157 dX10_turned_37 [_] rfl rfl rfl (Nat.le_of_ble_eq_true rfl) ⟨Nat.le_refl _, Nat.le_refl _⟩ ?_
    refine k_X10_seen s6 (by rw [va_up_self]; exact hN3) ?_
    rw [va_up_self, ← hN3.shw]
    exact z_iret G hq dX10_turned_40 (hok hm _ ⟨fun k k1 k2 k3 => by rw [va_ne' k2]; exact f1 k k1 k3, fun j hj => by rw [va_ne' (by omega)]; exact f2 j hj, by rw [va_ne' (by omega)]; exact f3, by rw [va_ne' (by omega)]; exact f4, va_up_self ..⟩)
  · intro hm
    refine z_if_ne G 21 dX10_turned_15 (by decide) (fun c => absurd c (by decide)) (fun _ => ?_)
    refine z_ldc G ct_X10_182 dX10_turned_18 ?_
    exact z_iret G hq dX10_turned_20 (hs hm)
set_option maxHeartbeats 1000000 in
set_option maxRecDepth 20000 in
theorem k_X10_back {E : pmE} {d : Nat} {S : pmS} {I : pmI} {P : pmP} {R : Option Value → pmS → pmI → pmP → Prop} {m : Nat} (hM : MG S P m) {n T t c a : Nat} (hV : Vd (I (m + 6)) n T t c) (ha : (I m 17).toInt = (a : Int)) (ha24 : a ≤ 24) (hs : ¬ (¬ I (m + 6) (44 + 10 * t) = 5 ∧ (if (0 : Int32) = 0 then 0 < I (m + 6) (47 + 10 * t) else I (m + 6) (47 + 10 * t) + 1 < I (m + 6) (46 + 10 * t))) → R (some (.int (-1000002))) S I P) (hok : ¬ I (m + 6) (44 + 10 * t) = 5 ∧ (if (0 : Int32) = 0 then 0 < I (m + 6) (47 + 10 * t) else I (m + 6) (47 + 10 * t) + 1 < I (m + 6) (46 + 10 * t)) → ∀ I', ActM I I' m a (goesF (I (m + 6)) t 0) → R (some (.int (shwF (goesF (I (m + 6)) t 0)))) S I' P) : pmX E (d + 4) 0 0 yX10_back [rr E m] S I P R := by
  refine pm_of (by decide) cd_X10_back (by decide) (by decide) (Nat.le_of_ble_eq_true rfl) ?_
  intro C G hq
  obtain ⟨g0, ⟨r0, r1, r2, r3, r4, r5, r6, r7, r8, r9, r10, r11, r12, r13, r14⟩, ⟨s1, s2, s3, s4, s5, s6, s7, s8, s9, s10, s11, s12, s13, s14, s15⟩⟩ := id hM
  refine z_aload_n G dX10_back_0 rfl ?_
  refine z_iconst G (v := 0) dX10_back_1 (by decide) ?_
  refine z_V G lk_X10_199 dX10_back_2 [_] rfl rfl rfl (Nat.le_of_ble_eq_true rfl) ⟨Nat.le_refl _, Nat.le_refl _⟩ (by assumption) ?_
  refine k_X10_turned hM hV ha ha24 ?_ ?_
  · intro hc
    exact z_iret G hq dX10_back_5 (hs hc)
  · intro hc I1 hA
    exact z_iret G hq dX10_back_5 (hok hc I1 hA)
set_option maxHeartbeats 1000000 in
set_option maxRecDepth 20000 in
theorem k_X10_forward {E : pmE} {d : Nat} {S : pmS} {I : pmI} {P : pmP} {R : Option Value → pmS → pmI → pmP → Prop} {m : Nat} (hM : MG S P m) {n T t c a : Nat} (hV : Vd (I (m + 6)) n T t c) (ha : (I m 17).toInt = (a : Int)) (ha24 : a ≤ 24) (hs : ¬ (¬ I (m + 6) (44 + 10 * t) = 5 ∧ (if (1 : Int32) = 0 then 0 < I (m + 6) (47 + 10 * t) else I (m + 6) (47 + 10 * t) + 1 < I (m + 6) (46 + 10 * t))) → R (some (.int (-1000002))) S I P) (hok : ¬ I (m + 6) (44 + 10 * t) = 5 ∧ (if (1 : Int32) = 0 then 0 < I (m + 6) (47 + 10 * t) else I (m + 6) (47 + 10 * t) + 1 < I (m + 6) (46 + 10 * t)) → ∀ I', ActM I I' m a (goesF (I (m + 6)) t 1) → R (some (.int (shwF (goesF (I (m + 6)) t 1)))) S I' P) : pmX E (d + 4) 0 0 yX10_forward [rr E m] S I P R := by
  refine pm_of (by decide) cd_X10_forward (by decide) (by decide) (Nat.le_of_ble_eq_true rfl) ?_
  intro C G hq
  obtain ⟨g0, ⟨r0, r1, r2, r3, r4, r5, r6, r7, r8, r9, r10, r11, r12, r13, r14⟩, ⟨s1, s2, s3, s4, s5, s6, s7, s8, s9, s10, s11, s12, s13, s14, s15⟩⟩ := id hM
  refine z_aload_n G dX10_forward_0 rfl ?_
  refine z_iconst G (v := 1) dX10_forward_1 (by decide) ?_
  refine z_V G lk_X10_199 dX10_forward_2 [_] rfl rfl rfl (Nat.le_of_ble_eq_true rfl) ⟨Nat.le_refl _, Nat.le_refl _⟩ (by assumption) ?_
  refine k_X10_turned hM hV ha ha24 ?_ ?_
  · intro hc
    exact z_iret G hq dX10_forward_5 (hs hc)
  · intro hc I1 hA
    exact z_iret G hq dX10_forward_5 (hok hc I1 hA)
set_option maxHeartbeats 1000000 in
set_option maxRecDepth 20000 in
theorem k_X10_select {E : pmE} {d : Nat} {S : pmS} {I : pmI} {P : pmP} {R : Option Value → pmS → pmI → pmP → Prop} {m : Nat} (hM : MG S P m) {n T t c a : Nat} (hV : Vd (I (m + 6)) n T t c) (ha : (I m 17).toInt = (a : Int)) (ha24 : a ≤ 24) {tab : Int32} (hb : (¬ ∃ i : Nat, tab.toInt = (i : Int) ∧ i < T) → R (some (.int (-1000001))) S I P) (hs : ∀ i : Nat, tab.toInt = (i : Int) → i < T → tab = I (m + 6) 2 → R (some (.int (-1000002))) S I P) (hok : ∀ i : Nat, tab.toInt = (i : Int) → i < T → ¬ tab = I (m + 6) 2 → ∀ I', ActM I I' m a (va_up (I (m + 6)) 2 tab) → R (some (.int (I (m + 6) 2))) S I' P) : pmX E (d + 2) 0 0 yX10_select [rr E m, .int tab] S I P R := by
  refine pm_of (by decide) cd_X10_select (by decide) (by decide) (Nat.le_of_ble_eq_true rfl) ?_
  intro C G hq
  obtain ⟨g0, ⟨r0, r1, r2, r3, r4, r5, r6, r7, r8, r9, r10, r11, r12, r13, r14⟩, ⟨s1, s2, s3, s4, s5, s6, s7, s8, s9, s10, s11, s12, s13, s14, s15⟩⟩ := id hM
  obtain ⟨v1, v2, v3, v4, v5, v6, v7, v8⟩ := id hV
  obtain ⟨s, p, hN, hpn⟩ := hV.nw
  refine z_aload_n G dX10_select_0 rfl ?_
  refine z_iload_n G dX10_select_1 rfl ?_
  refine z_V G lk_X10_202 dX10_select_2 [_] rfl rfl rfl (Nat.le_of_ble_eq_true rfl) ⟨Nat.le_refl _, Nat.le_refl _⟩ (by assumption) ?_
  refine k_X10_isTab hM v2.1 (by omega) ?_ ?_
  · intro i hi hiT
    refine z_if_ne G 11 dX10_select_5 (by decide) (fun _ => ?_) (fun c => absurd c (by decide))
    refine z_aload_n G dX10_select_11 rfl ?_
    refine z_getR G fl_X10_25 rfl dX10_select_12 (by assumption) (by assumption) ?_
    refine z_iconst G (v := 2) dX10_select_15 (by decide) ?_
    refine z_iald G (2) dX10_select_16 (by assumption) (rfl) (by omega) ?_
    refine z_istore_n G dX10_select_17 (Nat.le_of_ble_eq_true rfl) rfl ?_
    refine z_iload_n G dX10_select_18 rfl ?_
    refine z_iload_n G dX10_select_19 rfl ?_
    refine z_icmp_ne G 26 dX10_select_20 (by decide) (fun b20 => ?_) (fun b20 => ?_)
    · refine z_aload_n G dX10_select_26 rfl ?_
      refine z_V G lk_X10_187 dX10_select_27 [] rfl rfl rfl (Nat.le_of_ble_eq_true rfl) ⟨Nat.le_refl _, Nat.le_refl _⟩ (by assumption) ?_
      refine k_X10_notes hM ha ha24 (fun I1 f1 f2 f3 f4 => ?_)
      have hw : I1 (m + 6) = I (m + 6) := f1 _ (by omega) (by omega)
      refine z_aload_n G dX10_select_30 rfl ?_
      refine z_getR G fl_X10_25 rfl dX10_select_31 (by assumption) (by assumption) ?_
      refine z_iconst G (v := 2) dX10_select_34 (by decide) ?_
      refine z_iload_n G dX10_select_35 rfl ?_
      refine z_iast G (2) dX10_select_36 (by assumption) (rfl) (by omega) ?_
      rw [hw]
      refine z_iload_n G dX10_select_37 rfl ?_
      exact z_iret G hq dX10_select_38 (hok i hi hiT (fun q => b20 q.symm) _ ⟨fun k k1 k2 k3 => by rw [va_ne' k2]; exact f1 k k1 k3, fun j hj => by rw [va_ne' (by omega)]; exact f2 j hj, by rw [va_ne' (by omega)]; exact f3, by rw [va_ne' (by omega)]; exact f4, va_up_self ..⟩)
    · refine z_ldc G ct_X10_182 dX10_select_23 ?_
      exact z_iret G hq dX10_select_25 (hs i hi hiT b20.symm)
  · intro hno
    refine z_if_ne G 11 dX10_select_5 (by decide) (fun c => absurd c (by decide)) (fun _ => ?_)
    refine z_ldc G ct_X10_70 dX10_select_8 ?_
    exact z_iret G hq dX10_select_10 (hb hno)
set_option maxHeartbeats 1000000 in
set_option maxRecDepth 20000 in
theorem k_X10_open {E : pmE} {d : Nat} {S : pmS} {I : pmI} {P : pmP} {R : Option Value → pmS → pmI → pmP → Prop} {m : Nat} (hM : MG S P m) {n T t c a : Nat} (hV : Vd (I (m + 6)) n T t c) (ha : (I m 17).toInt = (a : Int)) (ha24 : a ≤ 24) {page : Int32} (hb : (¬ ∃ q : Nat, page.toInt = (q : Int) ∧ q < n) → R (some (.int (-1000001))) S I P) (hs : ∀ q : Nat, page.toInt = (q : Int) → q < n → ¬ T < 5 → R (some (.int (-1000002))) S I P) (hok : ∀ q : Nat, page.toInt = (q : Int) → q < n → T < 5 → ∀ I', ActM I I' m a (opensF (I (m + 6)) T page) → R (some (.int (iN (T + 1)))) S I' P) : pmX E (d + 4) 0 0 yX10_open [rr E m, .int page] S I P R := by
  refine pm_of (by decide) cd_X10_open (by decide) (by decide) (Nat.le_of_ble_eq_true rfl) ?_
  intro C G hq
  obtain ⟨g0, ⟨r0, r1, r2, r3, r4, r5, r6, r7, r8, r9, r10, r11, r12, r13, r14⟩, ⟨s1, s2, s3, s4, s5, s6, s7, s8, s9, s10, s11, s12, s13, s14, s15⟩⟩ := id hM
  obtain ⟨v1, v2, v3, v4, v5, v6, v7, v8⟩ := id hV
  obtain ⟨s, p, hN, hpn⟩ := hV.nw
  refine z_aload_n G dX10_open_0 rfl ?_
  refine z_iload_n G dX10_open_1 rfl ?_
  refine z_V G lk_X10_205 dX10_open_2 [_] rfl rfl rfl (Nat.le_of_ble_eq_true rfl) ⟨Nat.le_refl _, Nat.le_refl _⟩ (by assumption) ?_
  refine k_X10_isPage hM v1.1 (by omega) ?_ ?_
  · intro q hq5 hqn
    refine z_if_ne G 11 dX10_open_5 (by decide) (fun _ => ?_) (fun c => absurd c (by decide))
    refine z_aload_n G dX10_open_11 rfl ?_
    refine z_getR G fl_X10_25 rfl dX10_open_12 (by assumption) (by assumption) ?_
    refine z_iconst G (v := 1) dX10_open_15 (by decide) ?_
    refine z_iald G (1) dX10_open_16 (by assumption) (rfl) (by omega) ?_
    refine z_iconst G (v := 5) dX10_open_17 (by decide) ?_
    refine z_icmp_ne G 24 dX10_open_18 (by decide) (fun b18 => ?_) (fun b18 => ?_)
    · have hT5 : T < 5 := by have : ¬ T = 5 := fun z => b18 (by rw [iN_of v2.1, z]; rfl); omega
      refine z_aload_n G dX10_open_24 rfl ?_
      refine z_V G lk_X10_187 dX10_open_25 [] rfl rfl rfl (Nat.le_of_ble_eq_true rfl) ⟨Nat.le_refl _, Nat.le_refl _⟩ (by assumption) ?_
      refine k_X10_notes hM ha ha24 (fun I1 f1 f2 f3 f4 => ?_)
      have hw : I1 (m + 6) = I (m + 6) := f1 _ (by omega) (by omega)
      refine z_aload_n G dX10_open_28 rfl ?_
      refine z_getR G fl_X10_25 rfl dX10_open_29 (by assumption) (by assumption) ?_
      refine z_iload_n G dX10_open_32 rfl ?_
      refine z_S G lk_X10_208 dX10_open_33 [_, _] rfl rfl rfl (Nat.le_of_ble_eq_true rfl) ⟨Nat.le_refl _, Nat.le_refl _⟩ ?_
      refine k_X10_opens s6 (by rw [hw]; exact hV) hT5 hq5 hqn ?_
      rw [hw]
      have hV2 := hV.opens hT5 hq5 hqn
      refine z_aload_n G dX10_open_36 rfl ?_
      refine z_getR G fl_X10_25 rfl dX10_open_37 (by assumption) (by assumption) ?_
      refine z_iconst G (v := 1) dX10_open_40 (by decide) ?_
      refine z_iald G (1) dX10_open_41 (by assumption) (rfl) (by omega) ?_
      rw [va_up_self, iN_of hV2.2.1.1]
      exact z_iret G hq dX10_open_42 (hok q hq5 hqn hT5 _ ⟨fun k k1 k2 k3 => by rw [va_ne' k2]; exact f1 k k1 k3, fun j hj => by rw [va_ne' (by omega)]; exact f2 j hj, by rw [va_ne' (by omega)]; exact f3, by rw [va_ne' (by omega)]; exact f4, va_up_self ..⟩)
    · refine z_ldc G ct_X10_182 dX10_open_21 ?_
      exact z_iret G hq dX10_open_23 (hs q hq5 hqn (fun z => by have := congrArg Int32.toInt b18; rw [v2.1] at this; simp only [Int32.reduceToInt] at this; omega))
  · intro hno
    refine z_if_ne G 11 dX10_open_5 (by decide) (fun c => absurd c (by decide)) (fun _ => ?_)
    refine z_ldc G ct_X10_70 dX10_open_8 ?_
    exact z_iret G hq dX10_open_10 (hb hno)
set_option maxHeartbeats 1000000 in
set_option maxRecDepth 20000 in
theorem k_X10_close {E : pmE} {d : Nat} {S : pmS} {I : pmI} {P : pmP} {R : Option Value → pmS → pmI → pmP → Prop} {m : Nat} (hM : MG S P m) {n T t c a : Nat} (hV : Vd (I (m + 6)) n T t c) (ha : (I m 17).toInt = (a : Int)) (ha24 : a ≤ 24) (hs : ¬ 2 ≤ T → R (some (.int (-1000002))) S I P) (hok : 2 ≤ T → ∀ I', ActM I I' m a (closesF (I (m + 6)) T t c) → R (some (.int (closesF (I (m + 6)) T t c 2))) S I' P) : pmX E (d + 2) 0 0 yX10_close [rr E m] S I P R := by
  refine pm_of (by decide) cd_X10_close (by decide) (by decide) (Nat.le_of_ble_eq_true rfl) ?_
  intro C G hq
  obtain ⟨g0, ⟨r0, r1, r2, r3, r4, r5, r6, r7, r8, r9, r10, r11, r12, r13, r14⟩, ⟨s1, s2, s3, s4, s5, s6, s7, s8, s9, s10, s11, s12, s13, s14, s15⟩⟩ := id hM
  obtain ⟨v1, v2, v3, v4, v5, v6, v7, v8⟩ := id hV
  obtain ⟨s, p, hN, hpn⟩ := hV.nw
  refine z_aload_n G dX10_close_0 rfl ?_
  refine z_getR G fl_X10_25 rfl dX10_close_1 (by assumption) (by assumption) ?_
  refine z_iconst G (v := 1) dX10_close_4 (by decide) ?_
  refine z_iald G (1) dX10_close_5 (by assumption) (rfl) (by omega) ?_
  refine z_iconst G (v := 2) dX10_close_6 (by decide) ?_
  refine z_icmp_ge G 13 dX10_close_7 (by decide) (fun b7 => ?_) (fun b7 => ?_)
  · have hT2 : 2 ≤ T := by simp only [ti_lt, ti_le, Int32.reduceToInt, v2.1] at b7; omega
    refine z_aload_n G dX10_close_13 rfl ?_
    refine z_V G lk_X10_187 dX10_close_14 [] rfl rfl rfl (Nat.le_of_ble_eq_true rfl) ⟨Nat.le_refl _, Nat.le_refl _⟩ (by assumption) ?_
    refine k_X10_notes hM ha ha24 (fun I1 f1 f2 f3 f4 => ?_)
    have hw : I1 (m + 6) = I (m + 6) := f1 _ (by omega) (by omega)
    refine z_aload_n G dX10_close_17 rfl ?_
    refine z_getR G fl_X10_25 rfl dX10_close_18 (by assumption) (by assumption) ?_
    refine z_S G lk_X10_211 dX10_close_21 [_] rfl rfl rfl (Nat.le_of_ble_eq_true rfl) ⟨Nat.le_refl _, Nat.le_refl _⟩ ?_
    refine k_X10_closes s6 (by rw [hw]; exact v2.1) v2.2.2 hT2 (by rw [hw]; exact v3.1) v3.2 (by rw [hw]; exact v4.1) v4.2 ?_
    rw [hw]
    refine z_aload_n G dX10_close_24 rfl ?_
    refine z_getR G fl_X10_25 rfl dX10_close_25 (by assumption) (by assumption) ?_
    refine z_iconst G (v := 2) dX10_close_28 (by decide) ?_
    refine z_iald G (2) dX10_close_29 (by assumption) (rfl) (by omega) ?_
    rw [va_up_self]
    exact z_iret G hq dX10_close_30 (hok hT2 _ ⟨fun k k1 k2 k3 => by rw [va_ne' k2]; exact f1 k k1 k3, fun j hj => by rw [va_ne' (by omega)]; exact f2 j hj, by rw [va_ne' (by omega)]; exact f3, by rw [va_ne' (by omega)]; exact f4, va_up_self ..⟩)
  · refine z_ldc G ct_X10_182 dX10_close_10 ?_
    exact z_iret G hq dX10_close_12 (hs (by simp only [ti_lt, ti_le, Int32.reduceToInt, v2.1] at b7; omega))
set_option maxHeartbeats 1000000 in
set_option maxRecDepth 20000 in
theorem k_X10_again {E : pmE} {d : Nat} {S : pmS} {I : pmI} {P : pmP} {R : Option Value → pmS → pmI → pmP → Prop} {m : Nat} (hM : MG S P m) {n T t c a : Nat} (hV : Vd (I (m + 6)) n T t c) (ha : (I m 17).toInt = (a : Int)) (ha24 : a ≤ 24) (hs : ¬ (1 ≤ c ∧ T < 5) → R (some (.int (-1000002))) S I P) (hok : 1 ≤ c → T < 5 → ∀ I', ActM I I' m a (againF (I (m + 6)) T c) → R (some (.int (iN (T + 1)))) S I' P) : pmX E (d + 2) 0 0 yX10_again [rr E m] S I P R := by
  refine pm_of (by decide) cd_X10_again (by decide) (by decide) (Nat.le_of_ble_eq_true rfl) ?_
  intro C G hq
  obtain ⟨g0, ⟨r0, r1, r2, r3, r4, r5, r6, r7, r8, r9, r10, r11, r12, r13, r14⟩, ⟨s1, s2, s3, s4, s5, s6, s7, s8, s9, s10, s11, s12, s13, s14, s15⟩⟩ := id hM
  obtain ⟨v1, v2, v3, v4, v5, v6, v7, v8⟩ := id hV
  obtain ⟨s, p, hN, hpn⟩ := hV.nw
  refine z_aload_n G dX10_again_0 rfl ?_
  refine z_getR G fl_X10_25 rfl dX10_again_1 (by assumption) (by assumption) ?_
  refine z_iconst G (v := 3) dX10_again_4 (by decide) ?_
  refine z_iald G (3) dX10_again_5 (by assumption) (rfl) (by omega) ?_
  refine z_if_eq G 19 dX10_again_6 (by decide) (fun b6 => ?_) (fun b6 => ?_)
  · refine z_ldc G ct_X10_182 dX10_again_19 ?_
    exact z_iret G hq dX10_again_21 (hs (fun q => by have := congrArg Int32.toInt b6; rw [v4.1] at this; simp only [Int32.reduceToInt] at this; omega))
  · refine z_aload_n G dX10_again_9 rfl ?_
    refine z_getR G fl_X10_25 rfl dX10_again_10 (by assumption) (by assumption) ?_
    refine z_iconst G (v := 1) dX10_again_13 (by decide) ?_
    refine z_iald G (1) dX10_again_14 (by assumption) (rfl) (by omega) ?_
    refine z_iconst G (v := 5) dX10_again_15 (by decide) ?_
    refine z_icmp_ne G 22 dX10_again_16 (by decide) (fun b16 => ?_) (fun b16 => ?_)
    · have hT5 : T < 5 := by have : ¬ T = 5 := fun z => b16 (by rw [iN_of v2.1, z]; rfl); omega
      have hc1 : 1 ≤ c := by have : ¬ c = 0 := fun z => b6 (by rw [iN_of v4.1, z]; rfl); omega
      refine z_aload_n G dX10_again_22 rfl ?_
      refine z_V G lk_X10_187 dX10_again_23 [] rfl rfl rfl (Nat.le_of_ble_eq_true rfl) ⟨Nat.le_refl _, Nat.le_refl _⟩ (by assumption) ?_
      refine k_X10_notes hM ha ha24 (fun I1 f1 f2 f3 f4 => ?_)
      have hw : I1 (m + 6) = I (m + 6) := f1 _ (by omega) (by omega)
      refine z_aload_n G dX10_again_26 rfl ?_
      refine z_getR G fl_X10_25 rfl dX10_again_27 (by assumption) (by assumption) ?_
      refine z_iconst G (v := 3) dX10_again_30 (by decide) ?_
      refine z_dup2 G dX10_again_31 rfl rfl ?_
      refine z_iald G (3) dX10_again_32 (by assumption) (rfl) (by omega) ?_
      refine z_iconst G (v := 1) dX10_again_33 (by decide) ?_
      refine z_isub G dX10_again_34 ?_
      refine z_top (y := iN (c - 1)) (by rw [hw]; exact by simp (disch := omega) only [iN_lit, iN_add, iN_sub, iN_mul, iN_an, iN_of (v4.1)] <;> exact congrArg iN (by omega)) ?_
      refine z_iast G (3) dX10_again_35 (by assumption) (rfl) (by omega) ?_
      rw [hw]
      refine z_aload_n G dX10_again_36 rfl ?_
      refine z_getR G fl_X10_25 rfl dX10_again_37 (by assumption) (by assumption) ?_
      refine z_bipush G (v := 94) dX10_again_40 (by decide) ?_
      refine z_bipush G (v := 10) dX10_again_42 (by decide) ?_
      refine z_aload_n G dX10_again_44 rfl ?_
      refine z_getR G fl_X10_25 rfl dX10_again_45 (by assumption) (by assumption) ?_
      refine z_iconst G (v := 3) dX10_again_48 (by decide) ?_
      refine z_iald G (3) dX10_again_49 (by assumption) (rfl) (by omega) ?_
      rw [va_up_self, va_up_self]
      refine z_imul G dX10_again_50 ?_
      refine z_iadd G dX10_again_51 ?_
      refine z_bipush G (v := 44) dX10_again_52 (by decide) ?_
      refine z_bipush G (v := 10) dX10_again_54 (by decide) ?_
      refine z_aload_n G dX10_again_56 rfl ?_
      refine z_getR G fl_X10_25 rfl dX10_again_57 (by assumption) (by assumption) ?_
      refine z_iconst G (v := 1) dX10_again_60 (by decide) ?_
      refine z_iald G (1) dX10_again_61 (by assumption) (rfl) (by omega) ?_
      rw [va_up_self, va_ne' (by omega)]
      refine z_imul G dX10_again_62 ?_
      refine z_iadd G dX10_again_63 ?_
      refine z_S G lk_X10_164 dX10_again_64 [_, _, _] rfl rfl rfl (Nat.le_of_ble_eq_true rfl) ⟨Nat.le_refl _, Nat.le_refl _⟩ ?_
      refine k_X10_moves s6 (f := 94 + 10 * (c - 1)) (g := 44 + 10 * T) (by simp (disch := omega) only [iN_lit, iN_add, iN_sub, iN_mul, iN_an]; exact iN_ti2 (by omega) (by omega)) (by simp (disch := omega) only [iN_lit, iN_add, iN_sub, iN_mul, iN_an, iN_of (v2.1)]; exact iN_ti2 (by omega) (by omega)) (by omega) (by omega) (by omega) ?_
      simp only [va_up_self, va_up_up]
      refine z_aload_n G dX10_again_67 rfl ?_
      refine z_getR G fl_X10_25 rfl dX10_again_68 (by assumption) (by assumption) ?_
      refine z_iconst G (v := 2) dX10_again_71 (by decide) ?_
      refine z_aload_n G dX10_again_72 rfl ?_
      refine z_getR G fl_X10_25 rfl dX10_again_73 (by assumption) (by assumption) ?_
      refine z_iconst G (v := 1) dX10_again_76 (by decide) ?_
      refine z_iald G (1) dX10_again_77 (by assumption) (rfl) (by omega) ?_
      refine z_top (y := iN T) (by rw [va_up_self, cpy_off (by omega), va_ne' (by omega)]; exact iN_of v2.1) ?_
      refine z_iast G (2) dX10_again_78 (by assumption) (rfl) (by omega) ?_
      simp only [va_up_self, va_up_up]
      refine z_aload_n G dX10_again_79 rfl ?_
      refine z_getR G fl_X10_25 rfl dX10_again_80 (by assumption) (by assumption) ?_
      refine z_iconst G (v := 1) dX10_again_83 (by decide) ?_
      refine z_dup2 G dX10_again_84 rfl rfl ?_
      refine z_iald G (1) dX10_again_85 (by assumption) (rfl) (by omega) ?_
      refine z_iconst G (v := 1) dX10_again_86 (by decide) ?_
      refine z_iadd G dX10_again_87 ?_
      refine z_top (y := iN (T + 1)) (by rw [va_up_self, va_ne' (by omega), cpy_off (by omega), va_ne' (by omega), iN_of v2.1, iN_lit, iN_add]) ?_
      refine z_iast G (1) dX10_again_88 (by assumption) (rfl) (by omega) ?_
      simp only [va_up_self, va_up_up]
      refine z_aload_n G dX10_again_89 rfl ?_
      refine z_getR G fl_X10_25 rfl dX10_again_90 (by assumption) (by assumption) ?_
      refine z_iconst G (v := 1) dX10_again_93 (by decide) ?_
      refine z_iald G (1) dX10_again_94 (by assumption) (rfl) (by omega) ?_
      rw [va_up_self, va_up_self]
      exact z_iret G hq dX10_again_95 (hok hc1 hT5 _ ⟨fun k k1 k2 k3 => by rw [va_ne' k2]; exact f1 k k1 k3, fun j hj => by rw [va_ne' (by omega)]; exact f2 j hj, by rw [va_ne' (by omega)]; exact f3, by rw [va_ne' (by omega)]; exact f4, va_up_self ..⟩)
    · refine z_ldc G ct_X10_182 dX10_again_19 ?_
      exact z_iret G hq dX10_again_21 (hs (fun q => by have := congrArg Int32.toInt b16; rw [v2.1] at this; simp only [Int32.reduceToInt] at this; omega))
