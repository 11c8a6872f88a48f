set_option maxHeartbeats 1000000 in
set_option maxRecDepth 20000 in
theorem k_X10_follows {E : pmE} {d : Nat} {S : pmS} {I : pmI} {P : pmP} {R : Option Value → pmS → pmI → pmP → Prop} {a n T t c s p cn jn : Nat} {j : Int32} (ho : AR S a 11 124) (hV : Vd (I a) n T t c) (hn : Nw (I a) t s p) (hpn : p < n) (hj : j.toInt = (jn : Int)) (hc : (I a (4 + 5 * p)).toInt = (cn : Int)) (hjc : jn < cn) (hm : ¬ I a (44 + 10 * t) = 3 ∨ T < 5) (h : R none S (va_up I a (followsF (I a) T t s p jn)) P) : pmX E (d + 3) 0 0 yX10_follows [rr E a, .int j] S I P R := by
  refine pm_of (by decide) cd_X10_follows (by decide) (by decide) (Nat.le_of_ble_eq_true rfl) ?_
  intro C G hq
  obtain ⟨cn2, e1, e2, e3, e4⟩ := hV.2.2.2.2.1 p hpn
  obtain ⟨q, hq5, hqn⟩ := e4 jn (by omega)
  obtain ⟨T', t', hV2⟩ := hV.step hn.2.2.1 hq5 hqn hm
  obtain ⟨s', p', hN, hp'⟩ := hV2.nw
  have hp8 := hn.2.2.2.2.2
  have ht5 := hn.2.1
  have htT := hV.2.2.1.2
  refine z_aload_n G dX10_follows_0 rfl ?_
  refine z_iconst G (v := 4) dX10_follows_1 (by decide) ?_
  refine z_iconst G (v := 5) dX10_follows_2 (by decide) ?_
  refine z_aload_n G dX10_follows_3 rfl ?_
  refine z_S G lk_X10_157 dX10_follows_4 [_] rfl rfl rfl (Nat.le_of_ble_eq_true rfl) ⟨Nat.le_refl _, Nat.le_refl _⟩ ?_
  refine k_X10_seen ho hn ?_
  refine z_imul G dX10_follows_7 ?_
  refine z_iadd G dX10_follows_8 ?_
  refine z_iconst G (v := 1) dX10_follows_9 (by decide) ?_
  refine z_iadd G dX10_follows_10 ?_
  refine z_iload_n G dX10_follows_11 rfl ?_
  refine z_iadd G dX10_follows_12 ?_
  refine z_iald G (5 + 5 * p + jn) dX10_follows_13 (by assumption) (by simp (disch := omega) only [iN_lit, iN_add, iN_sub, iN_mul, iN_an, iN_of (hn.2.2.2.2.1), iN_of hj]; exact iN_ti2 (by omega) (by omega)) (by omega) ?_
  refine z_istore_n G dX10_follows_14 (Nat.le_of_ble_eq_true rfl) rfl ?_
  refine z_aload_n G dX10_follows_15 rfl ?_
  refine z_aload_n G dX10_follows_16 rfl ?_
  refine z_S G lk_X10_161 dX10_follows_17 [_] rfl rfl rfl (Nat.le_of_ble_eq_true rfl) ⟨Nat.le_refl _, Nat.le_refl _⟩ ?_
  refine k_X10_tabNow ho hn.1 hn.2.1 (fun v hv => ?_)
  refine z_iald G (44 + 10 * t) dX10_follows_20 (by assumption) (hv) (by omega) ?_
  refine z_iconst G (v := 3) dX10_follows_21 (by decide) ?_
  refine z_icmp_ne G 38 dX10_follows_22 (by decide) (fun b22 => ?_) (fun b22 => ?_)
  · refine z_aload_n G dX10_follows_38 rfl ?_
    refine z_iload_n G dX10_follows_39 rfl ?_
    refine z_S G lk_X10_171 dX10_follows_40 [_, _] rfl rfl rfl (Nat.le_of_ble_eq_true rfl) ⟨Nat.le_refl _, Nat.le_refl _⟩ ?_
    refine k_X10_comes ho hn.1 hn.2.1 hn.2.2.1 hn.2.2.2.1 ?_
    refine z_I (I' := va_up I a (stepW (I a) T t s (I a (5 + 5 * p + jn)))) (by rw [stepW, if_neg b22]) ?_
    refine z_aload_n G dX10_follows_43 rfl ?_
    refine z_S G lk_X10_175 dX10_follows_44 [_] rfl rfl rfl (Nat.le_of_ble_eq_true rfl) ⟨Nat.le_refl _, Nat.le_refl _⟩ ?_
    refine k_X10_visits (t := t') (s := s') (p := p') ho (by rw [va_up_self]; exact hN) ?_
    exact z_vret G hq dX10_follows_47 (by simpa only [followsF, hN.see, va_up_self, va_up_up] using h)
  · refine z_aload_n G dX10_follows_25 rfl ?_
    refine z_aload_n G dX10_follows_26 rfl ?_
    refine z_iconst G (v := 2) dX10_follows_27 (by decide) ?_
    refine z_iald G (2) dX10_follows_28 (by assumption) (rfl) (by omega) ?_
    refine z_iconst G (v := 1) dX10_follows_29 (by decide) ?_
    refine z_iadd G dX10_follows_30 ?_
    refine z_iload_n G dX10_follows_31 rfl ?_
    refine z_S G lk_X10_168 dX10_follows_32 [_, _, _] rfl rfl rfl (Nat.le_of_ble_eq_true rfl) ⟨Nat.le_refl _, Nat.le_refl _⟩ ?_
    refine k_X10_inserts ho (n := T) (q := t + 1) hV.2.1.1 (hm.elim (fun z => absurd b22 z) id) (by simp (disch := omega) only [iN_lit, iN_add, iN_sub, iN_mul, iN_an, iN_of (hn.1)]; exact iN_ti2 (by omega) (by omega)) (by omega) ?_
    refine z_goto G 43 dX10_follows_35 (by decide) ?_
    refine z_I (I' := va_up I a (stepW (I a) T t s (I a (5 + 5 * p + jn)))) (by rw [stepW, if_pos b22]) ?_
    refine z_aload_n G dX10_follows_43 rfl ?_
    refine z_S G lk_X10_175 dX10_follows_44 [_] rfl rfl rfl (Nat.le_of_ble_eq_true rfl) ⟨Nat.le_refl _, Nat.le_refl _⟩ ?_
    refine k_X10_visits (t := t') (s := s') (p := p') ho (by rw [va_up_self]; exact hN) ?_
    exact z_vret G hq dX10_follows_47 (by simpa only [followsF, hN.see, va_up_self, va_up_up] using h)
set_option maxHeartbeats 1000000 in
set_option maxRecDepth 20000 in
theorem k_X10_opens {E : pmE} {d : Nat} {S : pmS} {I : pmI} {P : pmP} {R : Option Value → pmS → pmI → pmP → Prop} {a n T t c q : Nat} {page : Int32} (ho : AR S a 11 124) (hV : Vd (I a) n T t c) (hT : T < 5) (hq5 : page.toInt = (q : Int)) (hqn : q < n) (h : R none S (va_up I a (opensF (I a) T page)) P) : pmX E (d + 3) 0 0 yX10_opens [rr E a, .int page] S I P R := by
  refine pm_of (by decide) cd_X10_opens (by decide) (by decide) (Nat.le_of_ble_eq_true rfl) ?_
  intro C G hq
  obtain ⟨s', p', hN, hp'⟩ := (hV.ins hT hV.2.1.1 (Nat.le_refl _) hq5 hqn).nw
  refine z_aload_n G dX10_opens_0 rfl ?_
  refine z_aload_n G dX10_opens_1 rfl ?_
  refine z_iconst G (v := 1) dX10_opens_2 (by decide) ?_
  refine z_iald G (1) dX10_opens_3 (by assumption) (rfl) (by omega) ?_
  refine z_iload_n G dX10_opens_4 rfl ?_
  refine z_S G lk_X10_168 dX10_opens_5 [_, _, _] rfl rfl rfl (Nat.le_of_ble_eq_true rfl) ⟨Nat.le_refl _, Nat.le_refl _⟩ ?_
  refine k_X10_inserts ho (n := T) (q := T) hV.2.1.1 hT hV.2.1.1 (Nat.le_refl _) ?_
  refine z_aload_n G dX10_opens_8 rfl ?_
  refine z_S G lk_X10_175 dX10_opens_9 [_] rfl rfl rfl (Nat.le_of_ble_eq_true rfl) ⟨Nat.le_refl _, Nat.le_refl _⟩ ?_
  refine k_X10_visits (t := T) (s := s') (p := p') ho (by rw [va_up_self]; exact hN) ?_
  exact z_vret G hq dX10_opens_12 (by simpa only [opensF, hN.see, va_up_self, va_up_up] using h)
