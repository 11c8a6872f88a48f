set_option maxHeartbeats 1000000 in
set_option maxRecDepth 20000 in
theorem k_X7_goHome {E : pmE} {d : Nat} {S : pmS} {I : pmI} {P : pmP} {R : Option Value → pmS → pmI → pmP → Prop} {t : Nat} (hG : TabG S P t) (h : ∀ I', Fr2 I I' t → I' t 1 = I t 1 → I' t 2 = I t 2 → I' t 3 = 1 → I' t 4 = 0 → I' (t + 1) 0 = I t 2 → R none S I' P) : pmX E d 0 0 yX7_goHome [rr E t] S I P R := by
  refine pm_of (by decide) cd_X7_goHome (by decide) (by decide) (Nat.le_of_ble_eq_true rfl) ?_
  intro C G hq
  obtain ⟨g1, g2, g3⟩ := hG
  refine z_aload_n G dX7_goHome_0 rfl ?_
  refine z_getR G fl_X7_9 rfl dX7_goHome_1 (by assumption) (by assumption) ?_
  refine z_iconst G (v := 0) dX7_goHome_4 (by decide) ?_
  refine z_aload_n G dX7_goHome_5 rfl ?_
  refine z_getI G fl_X7_19 rfl dX7_goHome_6 (by assumption) ?_
  refine z_iast G (0) dX7_goHome_9 (by assumption) (rfl) (by omega) ?_
  refine z_aload_n G dX7_goHome_10 rfl ?_
  refine z_iconst G (v := 1) dX7_goHome_11 (by decide) ?_
  refine z_putI G fl_X7_22 ft_7_3 rfl rfl rfl dX7_goHome_12 (by assumption) ?_
  refine z_aload_n G dX7_goHome_15 rfl ?_
  refine z_iconst G (v := 0) dX7_goHome_16 (by decide) ?_
  refine z_putI G fl_X7_25 ft_7_4 rfl rfl rfl dX7_goHome_17 (by assumption) ?_
  exact z_vret G hq dX7_goHome_20 (h _ (fun k k1 k2 => by simp (disch := omega) only [va_at', va_ne', va_up_up]) (by simp (disch := omega) only [va_at', va_ne', va_up_up]) (by simp (disch := omega) only [va_at', va_ne', va_up_up]) (by simp (disch := omega) only [va_at', va_ne', va_up_up]) (by simp (disch := omega) only [va_at', va_ne', va_up_up]) (by simp (disch := omega) only [va_at', va_ne', va_up_up]))
set_option maxHeartbeats 1000000 in
set_option maxRecDepth 20000 in
theorem k_X7_begin {E : pmE} {d : Nat} {S : pmS} {I : pmI} {P : pmP} {R : Option Value → pmS → pmI → pmP → Prop} {t : Nat} {sort page : Int32} (hG : TabG S P t) (h : ∀ I', Fr2 I I' t → (∀ w k, TR I' t (freshF w k sort page) k) → R none S I' P) : pmX E (d + 1) 0 0 yX7_begin [rr E t, .int sort, .int page] S I P R := by
  refine pm_of (by decide) cd_X7_begin (by decide) (by decide) (Nat.le_of_ble_eq_true rfl) ?_
  intro C G hq
  obtain ⟨g1, g2, g3⟩ := hG
  refine z_aload_n G dX7_begin_0 rfl ?_
  refine z_iload_n G dX7_begin_1 rfl ?_
  refine z_putI G fl_X7_15 ft_7_1 rfl rfl rfl dX7_begin_2 (by assumption) ?_
  refine z_aload_n G dX7_begin_5 rfl ?_
  refine z_iload_n G dX7_begin_6 rfl ?_
  refine z_putI G fl_X7_19 ft_7_2 rfl rfl rfl dX7_begin_7 (by assumption) ?_
  refine z_aload_n G dX7_begin_10 rfl ?_
  refine z_V G lk_X7_28 dX7_begin_11 [] rfl rfl rfl (Nat.le_of_ble_eq_true rfl) ⟨Nat.le_refl _, Nat.le_refl _⟩ (by assumption) ?_
  refine k_X7_goHome ⟨g1, g2, g3⟩ (fun I' f1 f2 f3 f4 f5 f6 => ?_)
  exact z_vret G hq dX7_begin_14 (h _ (fun k k1 k2 => by rw [f1 k k1 k2]; simp (disch := omega) only [va_at', va_ne', va_up_up]) (fun w k => TR.fresh (by rw [f2]; simp (disch := omega) only [va_at', va_ne', va_up_up]) (by rw [f3]; simp (disch := omega) only [va_at', va_ne', va_up_up]) f4 f5 (by rw [f6]; simp (disch := omega) only [va_at', va_ne', va_up_up])))
set_option maxHeartbeats 1000000 in
set_option maxRecDepth 20000 in
theorem k_X7_become {E : pmE} {d : Nat} {S : pmS} {I : pmI} {P : pmP} {R : Option Value → pmS → pmI → pmP → Prop} {t u : Nat} (hG : TabG S P t) (hG2 : TabG S P u) (hd : u + 1 < t ∨ t + 1 < u) (h : ∀ I', Fr2 I I' t → (∀ j, 1 ≤ j → j ≤ 4 → I' t j = I u j) → (∀ j, j < 6 → I' (t + 1) j = I (u + 1) j) → R none S I' P) : pmX E (d + 1) 0 0 yX7_become [rr E t, rr E u] S I P R := by
  refine pm_of (by decide) cd_X7_become (by decide) (by decide) (Nat.le_of_ble_eq_true rfl) ?_
  intro C G hq
  obtain ⟨g1, g2, g3⟩ := hG
  obtain ⟨q1, q2, q3⟩ := hG2
  refine z_aload_n G dX7_become_0 rfl ?_
  refine z_aload_n G dX7_become_1 rfl ?_
  refine z_getI G fl_X7_15 rfl dX7_become_2 (by assumption) ?_
  refine z_putI G fl_X7_15 ft_7_1 rfl rfl rfl dX7_become_5 (by assumption) ?_
  refine z_aload_n G dX7_become_8 rfl ?_
  refine z_aload_n G dX7_become_9 rfl ?_
  refine z_getI G fl_X7_19 rfl dX7_become_10 (by assumption) ?_
  refine z_putI G fl_X7_19 ft_7_2 rfl rfl rfl dX7_become_13 (by assumption) ?_
  refine z_aload_n G dX7_become_16 rfl ?_
  refine z_aload_n G dX7_become_17 rfl ?_
  refine z_getI G fl_X7_22 rfl dX7_become_18 (by assumption) ?_
  refine z_putI G fl_X7_22 ft_7_3 rfl rfl rfl dX7_become_21 (by assumption) ?_
  refine z_aload_n G dX7_become_24 rfl ?_
  refine z_aload_n G dX7_become_25 rfl ?_
  refine z_getI G fl_X7_25 rfl dX7_become_26 (by assumption) ?_
  refine z_putI G fl_X7_25 ft_7_4 rfl rfl rfl dX7_become_29 (by assumption) ?_
  refine z_aload_n G dX7_become_32 rfl ?_
  refine z_getR G fl_X7_9 rfl dX7_become_33 (by assumption) (by assumption) ?_
  refine z_iconst G (v := 0) dX7_become_36 (by decide) ?_
  refine z_aload_n G dX7_become_37 rfl ?_
  refine z_getR G fl_X7_9 rfl dX7_become_38 (by assumption) (by assumption) ?_
  refine z_iconst G (v := 0) dX7_become_41 (by decide) ?_
  refine z_bipush G (v := 6) dX7_become_42 (by decide) ?_
  refine z_copy G 0 0 6 ml_X7_31 ac_n ac_s ac_i dX7_become_44 rfl (Nat.le_of_ble_eq_true rfl) (by assumption) (by assumption) rfl rfl rfl (by omega) (by omega) ?_
  exact z_vret G hq dX7_become_47 (h _ (fun k k1 k2 => by simp (disch := omega) only [va_at', va_ne', va_up_up]) (fun j j1 j2 => by rcases (show j = 1 ∨ j = 2 ∨ j = 3 ∨ j = 4 by omega) with rfl | rfl | rfl | rfl <;> simp (disch := omega) only [va_at', va_ne', va_up_up]) (fun j j6 => by simp (disch := omega) only [va_at', va_ne', va_up_up]; rw [cpy_in (by omega)]; simp (disch := omega) only [va_ne', Nat.zero_add, Nat.sub_zero]))
set_option maxHeartbeats 1000000 in
set_option maxRecDepth 20000 in
theorem k_X7_shownPage {E : pmE} {d : Nat} {S : pmS} {I : pmI} {P : pmP} {R : Option Value → pmS → pmI → pmP → Prop} {t s : Nat} (hG : TabG S P t) (hs : (I t 4).toInt = (s : Int)) (h6 : s < 6) (h : R (some (.int (I (t + 1) s))) S I P) : pmX E d 0 0 yX7_shownPage [rr E t] S I P R := by
  refine pm_of (by decide) cd_X7_shownPage (by decide) (by decide) (Nat.le_of_ble_eq_true rfl) ?_
  intro C G hq
  obtain ⟨g1, g2, g3⟩ := hG
  refine z_aload_n G dX7_shownPage_0 rfl ?_
  refine z_getI G fl_X7_25 rfl dX7_shownPage_1 (by assumption) ?_
  refine z_if_lt G 28 dX7_shownPage_4 (by decide) (fun c => absurd c (by simp only [ti_lt, ti_le, Int32.reduceToInt, hs]; omega)) (fun _ => ?_)
  refine z_aload_n G dX7_shownPage_7 rfl ?_
  refine z_getI G fl_X7_25 rfl dX7_shownPage_8 (by assumption) ?_
  refine z_bipush G (v := 6) dX7_shownPage_11 (by decide) ?_
  refine z_icmp_ge G 28 dX7_shownPage_13 (by decide) (fun c => absurd c (by simp only [ti_lt, ti_le, Int32.reduceToInt, hs]; omega)) (fun _ => ?_)
  refine z_aload_n G dX7_shownPage_16 rfl ?_
  refine z_getR G fl_X7_9 rfl dX7_shownPage_17 (by assumption) (by assumption) ?_
  refine z_aload_n G dX7_shownPage_20 rfl ?_
  refine z_getI G fl_X7_25 rfl dX7_shownPage_21 (by assumption) ?_
  refine z_iald G (s) dX7_shownPage_24 (by assumption) (hs) (by omega) ?_
  refine z_goto G 30 dX7_shownPage_25 (by decide) ?_
  exact z_iret G hq dX7_shownPage_30 (h)
set_option maxHeartbeats 1000000 in
set_option maxRecDepth 20000 in
theorem k_X7_showInstead {E : pmE} {d : Nat} {S : pmS} {I : pmI} {P : pmP} {R : Option Value → pmS → pmI → pmP → Prop} {t s : Nat} {page : Int32} (hG : TabG S P t) (hs : (I t 4).toInt = (s : Int)) (h6 : s < 6) (h : R none S (va_up I (t + 1) (va_up (I (t + 1)) s page)) P) : pmX E d 0 0 yX7_showInstead [rr E t, .int page] S I P R := by
  refine pm_of (by decide) cd_X7_showInstead (by decide) (by decide) (Nat.le_of_ble_eq_true rfl) ?_
  intro C G hq
  obtain ⟨g1, g2, g3⟩ := hG
  refine z_aload_n G dX7_showInstead_0 rfl ?_
  refine z_getI G fl_X7_25 rfl dX7_showInstead_1 (by assumption) ?_
  refine z_if_lt G 26 dX7_showInstead_4 (by decide) (fun c => absurd c (by simp only [ti_lt, ti_le, Int32.reduceToInt, hs]; omega)) (fun _ => ?_)
  refine z_aload_n G dX7_showInstead_7 rfl ?_
  refine z_getI G fl_X7_25 rfl dX7_showInstead_8 (by assumption) ?_
  refine z_bipush G (v := 6) dX7_showInstead_11 (by decide) ?_
  refine z_icmp_ge G 26 dX7_showInstead_13 (by decide) (fun c => absurd c (by simp only [ti_lt, ti_le, Int32.reduceToInt, hs]; omega)) (fun _ => ?_)
  refine z_aload_n G dX7_showInstead_16 rfl ?_
  refine z_getR G fl_X7_9 rfl dX7_showInstead_17 (by assumption) (by assumption) ?_
  refine z_aload_n G dX7_showInstead_20 rfl ?_
  refine z_getI G fl_X7_25 rfl dX7_showInstead_21 (by assumption) ?_
  refine z_iload_n G dX7_showInstead_24 rfl ?_
  refine z_iast G (s) dX7_showInstead_25 (by assumption) (hs) (by omega) ?_
  exact z_vret G hq dX7_showInstead_26 (h)
set_option maxHeartbeats 1000000 in
set_option maxRecDepth 20000 in
theorem k_X7_stepBack {E : pmE} {d : Nat} {S : pmS} {I : pmI} {P : pmP} {R : Option Value → pmS → pmI → pmP → Prop} {t : Nat} (hG : TabG S P t) (h1 : ¬ I t 1 = 5 ∧ 0 < I t 4 → R (some (.int 1)) S (va_up I t (va_up (I t) 4 (I t 4 - 1))) P) (h0 : ¬ (¬ I t 1 = 5 ∧ 0 < I t 4) → R (some (.int 0)) S I P) : pmX E d 0 0 yX7_stepBack [rr E t] S I P R := by
  refine pm_of (by decide) cd_X7_stepBack (by decide) (by decide) (Nat.le_of_ble_eq_true rfl) ?_
  intro C G hq
  obtain ⟨g1, g2, g3⟩ := hG
  refine z_aload_n G dX7_stepBack_0 rfl ?_
  refine z_getI G fl_X7_15 rfl dX7_stepBack_1 (by assumption) ?_
  refine z_iconst G (v := 5) dX7_stepBack_4 (by decide) ?_
  refine z_icmp_eq G 15 dX7_stepBack_5 (by decide) (fun b5 => ?_) (fun b5 => ?_)
  · refine z_iconst G (v := 0) dX7_stepBack_15 (by decide) ?_
    exact z_zret G hq dX7_stepBack_16 rfl (h0 (fun q => q.1 b5))
  · refine z_aload_n G dX7_stepBack_8 rfl ?_
    refine z_getI G fl_X7_25 rfl dX7_stepBack_9 (by assumption) ?_
    refine z_if_gt G 17 dX7_stepBack_12 (by decide) (fun b12 => ?_) (fun b12 => ?_)
    · refine z_aload_n G dX7_stepBack_17 rfl ?_
      refine z_dup G dX7_stepBack_18 rfl ?_
      refine z_getI G fl_X7_25 rfl dX7_stepBack_19 (by assumption) ?_
      refine z_iconst G (v := 1) dX7_stepBack_22 (by decide) ?_
      refine z_isub G dX7_stepBack_23 ?_
      refine z_putI G fl_X7_25 ft_7_4 rfl rfl rfl dX7_stepBack_24 (by assumption) ?_
      refine z_iconst G (v := 1) dX7_stepBack_27 (by decide) ?_
      exact z_zret G hq dX7_stepBack_28 rfl (h1 ⟨b5, b12⟩)
    · refine z_iconst G (v := 0) dX7_stepBack_15 (by decide) ?_
      exact z_zret G hq dX7_stepBack_16 rfl (h0 (fun q => b12 q.2))
set_option maxHeartbeats 1000000 in
set_option maxRecDepth 20000 in
theorem k_X7_stepForward {E : pmE} {d : Nat} {S : pmS} {I : pmI} {P : pmP} {R : Option Value → pmS → pmI → pmP → Prop} {t : Nat} (hG : TabG S P t) (h1 : ¬ I t 1 = 5 ∧ I t 4 + 1 < I t 3 → R (some (.int 1)) S (va_up I t (va_up (I t) 4 (I t 4 + 1))) P) (h0 : ¬ (¬ I t 1 = 5 ∧ I t 4 + 1 < I t 3) → R (some (.int 0)) S I P) : pmX E d 0 0 yX7_stepForward [rr E t] S I P R := by
  refine pm_of (by decide) cd_X7_stepForward (by decide) (by decide) (Nat.le_of_ble_eq_true rfl) ?_
  intro C G hq
  obtain ⟨g1, g2, g3⟩ := hG
  refine z_aload_n G dX7_stepForward_0 rfl ?_
  refine z_getI G fl_X7_15 rfl dX7_stepForward_1 (by assumption) ?_
  refine z_iconst G (v := 5) dX7_stepForward_4 (by decide) ?_
  refine z_icmp_eq G 21 dX7_stepForward_5 (by decide) (fun b5 => ?_) (fun b5 => ?_)
  · refine z_iconst G (v := 0) dX7_stepForward_21 (by decide) ?_
    exact z_zret G hq dX7_stepForward_22 rfl (h0 (fun q => q.1 b5))
  · refine z_aload_n G dX7_stepForward_8 rfl ?_
    refine z_getI G fl_X7_25 rfl dX7_stepForward_9 (by assumption) ?_
    refine z_iconst G (v := 1) dX7_stepForward_12 (by decide) ?_
    refine z_iadd G dX7_stepForward_13 ?_
    refine z_aload_n G dX7_stepForward_14 rfl ?_
    refine z_getI G fl_X7_22 rfl dX7_stepForward_15 (by assumption) ?_
    refine z_icmp_lt G 23 dX7_stepForward_18 (by decide) (fun b18 => ?_) (fun b18 => ?_)
    · refine z_aload_n G dX7_stepForward_23 rfl ?_
      refine z_dup G dX7_stepForward_24 rfl ?_
      refine z_getI G fl_X7_25 rfl dX7_stepForward_25 (by assumption) ?_
      refine z_iconst G (v := 1) dX7_stepForward_28 (by decide) ?_
      refine z_iadd G dX7_stepForward_29 ?_
      refine z_putI G fl_X7_25 ft_7_4 rfl rfl rfl dX7_stepForward_30 (by assumption) ?_
      refine z_iconst G (v := 1) dX7_stepForward_33 (by decide) ?_
      exact z_zret G hq dX7_stepForward_34 rfl (h1 ⟨b5, b18⟩)
    · refine z_iconst G (v := 0) dX7_stepForward_21 (by decide) ?_
      exact z_zret G hq dX7_stepForward_22 rfl (h0 (fun q => b18 q.2))
set_option maxHeartbeats 1000000 in
set_option maxRecDepth 20000 in
theorem k_X7_forgetFirst {E : pmE} {d : Nat} {S : pmS} {I : pmI} {P : pmP} {R : Option Value → pmS → pmI → pmP → Prop} {t : Nat} (hG : TabG S P t) (h : R none S (va_up (va_up I (t + 1) (va_cpy (I (t + 1)) (I (t + 1)) 1 0 5)) t (va_up (I t) 3 (I t 3 - 1))) P) : pmX E d 0 0 yX7_forgetFirst [rr E t] S I P R := by
  refine pm_of (by decide) cd_X7_forgetFirst (by decide) (by decide) (Nat.le_of_ble_eq_true rfl) ?_
  intro C G hq
  obtain ⟨g1, g2, g3⟩ := hG
  have loop : ∀ (n j : Nat) (x : Int32), x.toInt = ((j + 1 : Nat) : Int) → j + n = 5 → pmZ E C 2 [some (rr E t), some (.int x)] [] S (va_up I (t + 1) (va_cpy (I (t + 1)) (I (t + 1)) 1 0 j)) P 0 0 := by
    intro n
    induction n with
    | zero =>
      intro j x hx hn
      obtain rfl : j = 5 := by omega
      refine z_iload_n G dX7_forgetFirst_2 rfl ?_
      refine z_bipush G (v := 6) dX7_forgetFirst_3 (by decide) ?_
      refine z_icmp_ge G 28 dX7_forgetFirst_5 (by decide) (fun b5 => ?_) (fun b5 => ?_)
      · refine z_aload_n G dX7_forgetFirst_28 rfl ?_
        refine z_dup G dX7_forgetFirst_29 rfl ?_
        refine z_getI G fl_X7_22 rfl dX7_forgetFirst_30 (by assumption) ?_
        refine z_iconst G (v := 1) dX7_forgetFirst_33 (by decide) ?_
        refine z_isub G dX7_forgetFirst_34 ?_
        refine z_putI G fl_X7_22 ft_7_3 rfl rfl rfl dX7_forgetFirst_35 (by assumption) ?_
        exact z_vret G hq dX7_forgetFirst_38 (by simp (disch := omega) only [va_at', va_ne', va_up_up]; exact h)
      · exact absurd (by simp (disch := omega) only [iN_lit, iN_add, iN_sub, iN_mul, iN_an, iN_le, iN_lt, iN_eq, iN_of hx] <;> omega) b5
    | succ n ih =>
      intro j x hx hn
      refine z_iload_n G dX7_forgetFirst_2 rfl ?_
      refine z_bipush G (v := 6) dX7_forgetFirst_3 (by decide) ?_
      refine z_icmp_ge G 28 dX7_forgetFirst_5 (by decide) (fun b5 => ?_) (fun b5 => ?_)
      · exact absurd b5 (by simp (disch := omega) only [iN_lit, iN_add, iN_sub, iN_mul, iN_an, iN_le, iN_lt, iN_eq, iN_of hx]; omega)
      · refine z_aload_n G dX7_forgetFirst_8 rfl ?_
        refine z_getR G fl_X7_9 rfl dX7_forgetFirst_9 (by assumption) (by assumption) ?_
        refine z_iload_n G dX7_forgetFirst_12 rfl ?_
        refine z_iconst G (v := 1) dX7_forgetFirst_13 (by decide) ?_
        refine z_isub G dX7_forgetFirst_14 ?_
        refine z_aload_n G dX7_forgetFirst_15 rfl ?_
        refine z_getR G fl_X7_9 rfl dX7_forgetFirst_16 (by assumption) (by assumption) ?_
        refine z_iload_n G dX7_forgetFirst_19 rfl ?_
        refine z_iald G (1 + j) dX7_forgetFirst_20 (by assumption) (by simp (disch := omega) only [iN_lit, iN_add, iN_sub, iN_mul, iN_an, iN_of hx]; exact iN_ti2 (by omega) (by omega)) (by omega) ?_
        refine z_iast G (0 + j) dX7_forgetFirst_21 (by assumption) (by simp (disch := omega) only [iN_lit, iN_add, iN_sub, iN_mul, iN_an, iN_of hx]; exact iN_ti2 (by omega) (by omega)) (by omega) ?_
        refine z_iinc G (v := 1) dX7_forgetFirst_22 (by decide) rfl rfl ?_
        refine z_goto G 2 dX7_forgetFirst_25 (by decide) ?_
        refine z_eq rfl rfl rfl ?_ rfl (ih (j + 1) _ (by simp (disch := omega) only [iN_lit, iN_add, iN_sub, iN_mul, iN_an, iN_of hx]; exact iN_ti2 (by omega) (by omega)) (by omega))
        rw [va_up_self, va_up_up, cpy_off (by omega), cpy_step]
  refine z_iconst G (v := 1) dX7_forgetFirst_0 (by decide) ?_
  refine z_istore_n G dX7_forgetFirst_1 (Nat.le_of_ble_eq_true rfl) rfl ?_
  refine z_eq rfl rfl rfl ?_ rfl (loop 5 0 1 rfl rfl)
  rw [cpy_0, va_up_id]
set_option maxHeartbeats 1000000 in
set_option maxRecDepth 20000 in
theorem k_X7_moveOn {E : pmE} {d : Nat} {S : pmS} {I : pmI} {P : pmP} {R : Option Value → pmS → pmI → pmP → Prop} {t τ n s : Nat} {w : Nat → Int32} {page : Int32} (hG : TabG S P t) (hr : TR I t w (44 + 10 * τ)) (hv : TV w (44 + 10 * τ) n) (hs0 : (w (47 + 10 * τ)).toInt = (s : Int)) (h : ∀ I', Fr2 I I' t → TR I' t (comesF w τ s page) (44 + 10 * τ) → R none S I' P) : pmX E (d + 1) 0 0 yX7_moveOn [rr E t, .int page] S I P R := by
  refine pm_of (by decide) cd_X7_moveOn (by decide) (by decide) (Nat.le_of_ble_eq_true rfl) ?_
  intro C G hq
  obtain ⟨g1, g2, g3⟩ := hG
  obtain ⟨kd, ho, l, s2, v1, v2, v3, v4, v5, v6, v7, v8, v9, v10, v11⟩ := hv
  obtain rfl : s = s2 := by rw [show 44 + 10 * τ + 3 = 47 + 10 * τ by omega] at v9; omega
  have hs : (I t 4).toInt = (s : Int) := by rw [hr.2.2.2.1]; exact v9
  have hl : (w (46 + 10 * τ)).toInt = (l : Int) := by rw [show 46 + 10 * τ = 44 + 10 * τ + 2 by omega]; exact v6
  refine z_aload_n G dX7_moveOn_0 rfl ?_
  refine z_aload_n G dX7_moveOn_1 rfl ?_
  refine z_getI G fl_X7_25 rfl dX7_moveOn_2 (by assumption) ?_
  refine z_iconst G (v := 1) dX7_moveOn_5 (by decide) ?_
  refine z_iadd G dX7_moveOn_6 ?_
  refine z_top (y := iN (s + 1)) (by simp (disch := omega) only [iN_lit, iN_add, iN_sub, iN_mul, iN_an, iN_of hs] <;> exact congrArg iN (by omega)) ?_
  refine z_putI G fl_X7_22 ft_7_3 rfl rfl rfl dX7_moveOn_7 (by assumption) ?_
  try simp (disch := omega) only [va_at', va_ne', va_up_up]
  refine z_aload_n G dX7_moveOn_10 rfl ?_
  refine z_getI G fl_X7_15 rfl dX7_moveOn_11 (by assumption) ?_
  try simp (disch := omega) only [va_at', va_ne', va_up_up]
  refine z_iconst G (v := 5) dX7_moveOn_14 (by decide) ?_
  refine z_icmp_ne G 31 dX7_moveOn_15 (by decide) (fun b15 => ?_) (fun b15 => ?_)
  · refine z_aload_n G dX7_moveOn_31 rfl ?_
    refine z_getI G fl_X7_22 rfl dX7_moveOn_32 (by assumption) ?_
    try simp (disch := omega) only [va_at', va_ne', va_up_up]
    refine z_aload_n G dX7_moveOn_35 rfl ?_
    refine z_getI G fl_X7_15 rfl dX7_moveOn_36 (by assumption) ?_
    try simp (disch := omega) only [va_at', va_ne', va_up_up]
    refine z_iconst G (v := 2) dX7_moveOn_39 (by decide) ?_
    refine z_icmp_ne G 47 dX7_moveOn_40 (by decide) (fun b40 => ?_) (fun b40 => ?_)
    · refine z_bipush G (v := 6) dX7_moveOn_47 (by decide) ?_
      refine z_icmp_lt G 56 dX7_moveOn_49 (by decide) (fun b49 => ?_) (fun b49 => ?_)
      · simp (disch := omega) only [iN_lit, iN_add, iN_sub, iN_mul, iN_an, iN_le, iN_lt, iN_eq] at b49
        refine z_aload_n G dX7_moveOn_56 rfl ?_
        refine z_getI G fl_X7_22 rfl dX7_moveOn_57 (by assumption) ?_
        try simp (disch := omega) only [va_at', va_ne', va_up_up]
        refine z_if_lt G 100 dX7_moveOn_60 (by decide) (fun c => absurd c (by simp (disch := omega) only [iN_lit, iN_add, iN_sub, iN_mul, iN_an, iN_le, iN_lt, iN_eq]; omega)) (fun _ => ?_)
        refine z_aload_n G dX7_moveOn_63 rfl ?_
        refine z_getI G fl_X7_22 rfl dX7_moveOn_64 (by assumption) ?_
        refine z_bipush G (v := 6) dX7_moveOn_67 (by decide) ?_
        try simp (disch := omega) only [va_at', va_ne', va_up_up]
        refine z_icmp_ge G 100 dX7_moveOn_69 (by decide) (fun c => absurd c (by simp (disch := omega) only [iN_lit, iN_add, iN_sub, iN_mul, iN_an, iN_le, iN_lt, iN_eq]; omega)) (fun _ => ?_)
        refine z_aload_n G dX7_moveOn_72 rfl ?_
        refine z_getR G fl_X7_9 rfl dX7_moveOn_73 (by assumption) (by assumption) ?_
        refine z_aload_n G dX7_moveOn_76 rfl ?_
        refine z_getI G fl_X7_22 rfl dX7_moveOn_77 (by assumption) ?_
        refine z_iload_n G dX7_moveOn_80 rfl ?_
        try simp (disch := omega) only [va_at', va_ne', va_up_up]
        refine z_iast G (s + 1) dX7_moveOn_81 (by assumption) (iN_ti (by omega)) (by omega) ?_
        try simp (disch := omega) only [va_at', va_ne', va_up_up]
        refine z_aload_n G dX7_moveOn_82 rfl ?_
        refine z_aload_n G dX7_moveOn_83 rfl ?_
        refine z_getI G fl_X7_22 rfl dX7_moveOn_84 (by assumption) ?_
        try simp (disch := omega) only [va_at', va_ne', va_up_up]
        refine z_putI G fl_X7_25 ft_7_4 rfl rfl rfl dX7_moveOn_87 (by assumption) ?_
        try simp (disch := omega) only [va_at', va_ne', va_up_up]
        refine z_aload_n G dX7_moveOn_90 rfl ?_
        refine z_dup G dX7_moveOn_91 rfl ?_
        refine z_getI G fl_X7_22 rfl dX7_moveOn_92 (by assumption) ?_
        refine z_iconst G (v := 1) dX7_moveOn_95 (by decide) ?_
        refine z_iadd G dX7_moveOn_96 ?_
        try simp (disch := omega) only [va_at', va_ne', va_up_up]
        refine z_putI G fl_X7_22 ft_7_3 rfl rfl rfl dX7_moveOn_97 (by assumption) ?_
        exact z_vret G hq dX7_moveOn_100 (h _ (fun k k1 k2 => by simp (disch := omega) only [va_at', va_ne', va_up_up]) (TR.push hr hl (by omega) v8 (by have hm : mostF w τ = 6 := (by unfold mostF; rw [if_neg (fun q => q.elim (fun z => b40 (by rw [hr.1]; exact z)) (fun z => b15 (by rw [hr.1]; exact z)))]); rw [hm]; omega) (by simp (disch := omega) only [va_at', va_ne', va_up_up]) (by simp (disch := omega) only [va_at', va_ne', va_up_up]) (by simp (disch := omega) only [va_at', va_ne', va_up_up]; rw [iN_lit, iN_add]) (by simp (disch := omega) only [va_at', va_ne', va_up_up]) (fun j hj => by simp (disch := omega) only [va_at', va_ne', va_up_up]) (by simp (disch := omega) only [va_at', va_ne', va_up_up])))
      · refine z_aload_n G dX7_moveOn_52 rfl ?_
        refine z_V G lk_X7_41 dX7_moveOn_53 [] rfl rfl rfl (Nat.le_of_ble_eq_true rfl) ⟨Nat.le_refl _, Nat.le_refl _⟩ (by assumption) ?_
        refine k_X7_forgetFirst ⟨g1, g2, g3⟩ ?_
        try simp (disch := omega) only [va_at', va_ne', va_up_up]
        rw [show iN (s + 1) - 1 = iN s by rw [iN_lit, iN_sub (by omega)]; congr 1]
        simp (disch := omega) only [iN_lit, iN_add, iN_sub, iN_mul, iN_an, iN_le, iN_lt, iN_eq] at b49
        refine z_aload_n G dX7_moveOn_56 rfl ?_
        refine z_getI G fl_X7_22 rfl dX7_moveOn_57 (by assumption) ?_
        try simp (disch := omega) only [va_at', va_ne', va_up_up]
        refine z_if_lt G 100 dX7_moveOn_60 (by decide) (fun c => absurd c (by simp (disch := omega) only [iN_lit, iN_add, iN_sub, iN_mul, iN_an, iN_le, iN_lt, iN_eq]; omega)) (fun _ => ?_)
        refine z_aload_n G dX7_moveOn_63 rfl ?_
        refine z_getI G fl_X7_22 rfl dX7_moveOn_64 (by assumption) ?_
        refine z_bipush G (v := 6) dX7_moveOn_67 (by decide) ?_
        try simp (disch := omega) only [va_at', va_ne', va_up_up]
        refine z_icmp_ge G 100 dX7_moveOn_69 (by decide) (fun c => absurd c (by simp (disch := omega) only [iN_lit, iN_add, iN_sub, iN_mul, iN_an, iN_le, iN_lt, iN_eq]; omega)) (fun _ => ?_)
        refine z_aload_n G dX7_moveOn_72 rfl ?_
        refine z_getR G fl_X7_9 rfl dX7_moveOn_73 (by assumption) (by assumption) ?_
        refine z_aload_n G dX7_moveOn_76 rfl ?_
        refine z_getI G fl_X7_22 rfl dX7_moveOn_77 (by assumption) ?_
        refine z_iload_n G dX7_moveOn_80 rfl ?_
        try simp (disch := omega) only [va_at', va_ne', va_up_up]
        refine z_iast G (s) dX7_moveOn_81 (by assumption) (iN_ti (by omega)) (by omega) ?_
        try simp (disch := omega) only [va_at', va_ne', va_up_up]
        refine z_aload_n G dX7_moveOn_82 rfl ?_
        refine z_aload_n G dX7_moveOn_83 rfl ?_
        refine z_getI G fl_X7_22 rfl dX7_moveOn_84 (by assumption) ?_
        try simp (disch := omega) only [va_at', va_ne', va_up_up]
        refine z_putI G fl_X7_25 ft_7_4 rfl rfl rfl dX7_moveOn_87 (by assumption) ?_
        try simp (disch := omega) only [va_at', va_ne', va_up_up]
        refine z_aload_n G dX7_moveOn_90 rfl ?_
        refine z_dup G dX7_moveOn_91 rfl ?_
        refine z_getI G fl_X7_22 rfl dX7_moveOn_92 (by assumption) ?_
        refine z_iconst G (v := 1) dX7_moveOn_95 (by decide) ?_
        refine z_iadd G dX7_moveOn_96 ?_
        try simp (disch := omega) only [va_at', va_ne', va_up_up]
        refine z_putI G fl_X7_22 ft_7_3 rfl rfl rfl dX7_moveOn_97 (by assumption) ?_
        exact z_vret G hq dX7_moveOn_100 (h _ (fun k k1 k2 => by simp (disch := omega) only [va_at', va_ne', va_up_up]) (TR.shift hr hl (by omega) v8 (by have hm : mostF w τ = 6 := (by unfold mostF; rw [if_neg (fun q => q.elim (fun z => b40 (by rw [hr.1]; exact z)) (fun z => b15 (by rw [hr.1]; exact z)))]); rw [hm]; omega) (fun z => b15 (by rw [hr.1]; exact z)) (by simp (disch := omega) only [va_at', va_ne', va_up_up]) (by simp (disch := omega) only [va_at', va_ne', va_up_up]) (by simp (disch := omega) only [va_at', va_ne', va_up_up]; rw [iN_lit, iN_add]) (by simp (disch := omega) only [va_at', va_ne', va_up_up]) (fun j hj => by simp (disch := omega) only [va_at', va_ne', va_up_up]; rw [cpy_in (by omega)]; congr 1; omega) (by simp (disch := omega) only [va_at', va_ne', va_up_up])))
    · refine z_iconst G (v := 3) dX7_moveOn_43 (by decide) ?_
      refine z_goto G 49 dX7_moveOn_44 (by decide) ?_
      refine z_icmp_lt G 56 dX7_moveOn_49 (by decide) (fun b49 => ?_) (fun b49 => ?_)
      · simp (disch := omega) only [iN_lit, iN_add, iN_sub, iN_mul, iN_an, iN_le, iN_lt, iN_eq] at b49
        refine z_aload_n G dX7_moveOn_56 rfl ?_
        refine z_getI G fl_X7_22 rfl dX7_moveOn_57 (by assumption) ?_
        try simp (disch := omega) only [va_at', va_ne', va_up_up]
        refine z_if_lt G 100 dX7_moveOn_60 (by decide) (fun c => absurd c (by simp (disch := omega) only [iN_lit, iN_add, iN_sub, iN_mul, iN_an, iN_le, iN_lt, iN_eq]; omega)) (fun _ => ?_)
        refine z_aload_n G dX7_moveOn_63 rfl ?_
        refine z_getI G fl_X7_22 rfl dX7_moveOn_64 (by assumption) ?_
        refine z_bipush G (v := 6) dX7_moveOn_67 (by decide) ?_
        try simp (disch := omega) only [va_at', va_ne', va_up_up]
        refine z_icmp_ge G 100 dX7_moveOn_69 (by decide) (fun c => absurd c (by simp (disch := omega) only [iN_lit, iN_add, iN_sub, iN_mul, iN_an, iN_le, iN_lt, iN_eq]; omega)) (fun _ => ?_)
        refine z_aload_n G dX7_moveOn_72 rfl ?_
        refine z_getR G fl_X7_9 rfl dX7_moveOn_73 (by assumption) (by assumption) ?_
        refine z_aload_n G dX7_moveOn_76 rfl ?_
        refine z_getI G fl_X7_22 rfl dX7_moveOn_77 (by assumption) ?_
        refine z_iload_n G dX7_moveOn_80 rfl ?_
        try simp (disch := omega) only [va_at', va_ne', va_up_up]
        refine z_iast G (s + 1) dX7_moveOn_81 (by assumption) (iN_ti (by omega)) (by omega) ?_
        try simp (disch := omega) only [va_at', va_ne', va_up_up]
        refine z_aload_n G dX7_moveOn_82 rfl ?_
        refine z_aload_n G dX7_moveOn_83 rfl ?_
        refine z_getI G fl_X7_22 rfl dX7_moveOn_84 (by assumption) ?_
        try simp (disch := omega) only [va_at', va_ne', va_up_up]
        refine z_putI G fl_X7_25 ft_7_4 rfl rfl rfl dX7_moveOn_87 (by assumption) ?_
        try simp (disch := omega) only [va_at', va_ne', va_up_up]
        refine z_aload_n G dX7_moveOn_90 rfl ?_
        refine z_dup G dX7_moveOn_91 rfl ?_
        refine z_getI G fl_X7_22 rfl dX7_moveOn_92 (by assumption) ?_
        refine z_iconst G (v := 1) dX7_moveOn_95 (by decide) ?_
        refine z_iadd G dX7_moveOn_96 ?_
        try simp (disch := omega) only [va_at', va_ne', va_up_up]
        refine z_putI G fl_X7_22 ft_7_3 rfl rfl rfl dX7_moveOn_97 (by assumption) ?_
        exact z_vret G hq dX7_moveOn_100 (h _ (fun k k1 k2 => by simp (disch := omega) only [va_at', va_ne', va_up_up]) (TR.push hr hl (by omega) v8 (by have hm : mostF w τ = 3 := (by unfold mostF; rw [if_pos (Or.inl (by rw [← hr.1]; exact b40))]); rw [hm]; omega) (by simp (disch := omega) only [va_at', va_ne', va_up_up]) (by simp (disch := omega) only [va_at', va_ne', va_up_up]) (by simp (disch := omega) only [va_at', va_ne', va_up_up]; rw [iN_lit, iN_add]) (by simp (disch := omega) only [va_at', va_ne', va_up_up]) (fun j hj => by simp (disch := omega) only [va_at', va_ne', va_up_up]) (by simp (disch := omega) only [va_at', va_ne', va_up_up])))
      · refine z_aload_n G dX7_moveOn_52 rfl ?_
        refine z_V G lk_X7_41 dX7_moveOn_53 [] rfl rfl rfl (Nat.le_of_ble_eq_true rfl) ⟨Nat.le_refl _, Nat.le_refl _⟩ (by assumption) ?_
        refine k_X7_forgetFirst ⟨g1, g2, g3⟩ ?_
        try simp (disch := omega) only [va_at', va_ne', va_up_up]
        rw [show iN (s + 1) - 1 = iN s by rw [iN_lit, iN_sub (by omega)]; congr 1]
        simp (disch := omega) only [iN_lit, iN_add, iN_sub, iN_mul, iN_an, iN_le, iN_lt, iN_eq] at b49
        refine z_aload_n G dX7_moveOn_56 rfl ?_
        refine z_getI G fl_X7_22 rfl dX7_moveOn_57 (by assumption) ?_
        try simp (disch := omega) only [va_at', va_ne', va_up_up]
        refine z_if_lt G 100 dX7_moveOn_60 (by decide) (fun c => absurd c (by simp (disch := omega) only [iN_lit, iN_add, iN_sub, iN_mul, iN_an, iN_le, iN_lt, iN_eq]; omega)) (fun _ => ?_)
        refine z_aload_n G dX7_moveOn_63 rfl ?_
        refine z_getI G fl_X7_22 rfl dX7_moveOn_64 (by assumption) ?_
        refine z_bipush G (v := 6) dX7_moveOn_67 (by decide) ?_
        try simp (disch := omega) only [va_at', va_ne', va_up_up]
        refine z_icmp_ge G 100 dX7_moveOn_69 (by decide) (fun c => absurd c (by simp (disch := omega) only [iN_lit, iN_add, iN_sub, iN_mul, iN_an, iN_le, iN_lt, iN_eq]; omega)) (fun _ => ?_)
        refine z_aload_n G dX7_moveOn_72 rfl ?_
        refine z_getR G fl_X7_9 rfl dX7_moveOn_73 (by assumption) (by assumption) ?_
        refine z_aload_n G dX7_moveOn_76 rfl ?_
        refine z_getI G fl_X7_22 rfl dX7_moveOn_77 (by assumption) ?_
        refine z_iload_n G dX7_moveOn_80 rfl ?_
        try simp (disch := omega) only [va_at', va_ne', va_up_up]
        refine z_iast G (s) dX7_moveOn_81 (by assumption) (iN_ti (by omega)) (by omega) ?_
        try simp (disch := omega) only [va_at', va_ne', va_up_up]
        refine z_aload_n G dX7_moveOn_82 rfl ?_
        refine z_aload_n G dX7_moveOn_83 rfl ?_
        refine z_getI G fl_X7_22 rfl dX7_moveOn_84 (by assumption) ?_
        try simp (disch := omega) only [va_at', va_ne', va_up_up]
        refine z_putI G fl_X7_25 ft_7_4 rfl rfl rfl dX7_moveOn_87 (by assumption) ?_
        try simp (disch := omega) only [va_at', va_ne', va_up_up]
        refine z_aload_n G dX7_moveOn_90 rfl ?_
        refine z_dup G dX7_moveOn_91 rfl ?_
        refine z_getI G fl_X7_22 rfl dX7_moveOn_92 (by assumption) ?_
        refine z_iconst G (v := 1) dX7_moveOn_95 (by decide) ?_
        refine z_iadd G dX7_moveOn_96 ?_
        try simp (disch := omega) only [va_at', va_ne', va_up_up]
        refine z_putI G fl_X7_22 ft_7_3 rfl rfl rfl dX7_moveOn_97 (by assumption) ?_
        exact z_vret G hq dX7_moveOn_100 (h _ (fun k k1 k2 => by simp (disch := omega) only [va_at', va_ne', va_up_up]) (TR.shift hr hl (by omega) v8 (by have hm : mostF w τ = 3 := (by unfold mostF; rw [if_pos (Or.inl (by rw [← hr.1]; exact b40))]); rw [hm]; omega) (fun z => b15 (by rw [hr.1]; exact z)) (by simp (disch := omega) only [va_at', va_ne', va_up_up]) (by simp (disch := omega) only [va_at', va_ne', va_up_up]) (by simp (disch := omega) only [va_at', va_ne', va_up_up]; rw [iN_lit, iN_add]) (by simp (disch := omega) only [va_at', va_ne', va_up_up]) (fun j hj => by simp (disch := omega) only [va_at', va_ne', va_up_up]; rw [cpy_in (by omega)]; congr 1; omega) (by simp (disch := omega) only [va_at', va_ne', va_up_up])))
  · refine z_aload_n G dX7_moveOn_18 rfl ?_
    refine z_getI G fl_X7_22 rfl dX7_moveOn_19 (by assumption) ?_
    try simp (disch := omega) only [va_at', va_ne', va_up_up]
    refine z_iconst G (v := 3) dX7_moveOn_22 (by decide) ?_
    refine z_icmp_lt G 31 dX7_moveOn_23 (by decide) (fun b23 => ?_) (fun b23 => ?_)
    · refine z_aload_n G dX7_moveOn_31 rfl ?_
      refine z_getI G fl_X7_22 rfl dX7_moveOn_32 (by assumption) ?_
      try simp (disch := omega) only [va_at', va_ne', va_up_up]
      refine z_aload_n G dX7_moveOn_35 rfl ?_
      refine z_getI G fl_X7_15 rfl dX7_moveOn_36 (by assumption) ?_
      try simp (disch := omega) only [va_at', va_ne', va_up_up]
      refine z_iconst G (v := 2) dX7_moveOn_39 (by decide) ?_
      refine z_icmp_ne G 47 dX7_moveOn_40 (by decide) (fun _ => ?_) (fun c => absurd c (by rw [b15]; decide))
      refine z_bipush G (v := 6) dX7_moveOn_47 (by decide) ?_
      refine z_icmp_lt G 56 dX7_moveOn_49 (by decide) (fun _ => ?_) (fun c => absurd c (by simp (disch := omega) only [iN_lit, iN_add, iN_sub, iN_mul, iN_an, iN_le, iN_lt, iN_eq] at b23 ⊢; omega))
      simp (disch := omega) only [iN_lit, iN_add, iN_sub, iN_mul, iN_an, iN_le, iN_lt, iN_eq] at b23
      refine z_aload_n G dX7_moveOn_56 rfl ?_
      refine z_getI G fl_X7_22 rfl dX7_moveOn_57 (by assumption) ?_
      try simp (disch := omega) only [va_at', va_ne', va_up_up]
      refine z_if_lt G 100 dX7_moveOn_60 (by decide) (fun c => absurd c (by simp (disch := omega) only [iN_lit, iN_add, iN_sub, iN_mul, iN_an, iN_le, iN_lt, iN_eq]; omega)) (fun _ => ?_)
      refine z_aload_n G dX7_moveOn_63 rfl ?_
      refine z_getI G fl_X7_22 rfl dX7_moveOn_64 (by assumption) ?_
      refine z_bipush G (v := 6) dX7_moveOn_67 (by decide) ?_
      try simp (disch := omega) only [va_at', va_ne', va_up_up]
      refine z_icmp_ge G 100 dX7_moveOn_69 (by decide) (fun c => absurd c (by simp (disch := omega) only [iN_lit, iN_add, iN_sub, iN_mul, iN_an, iN_le, iN_lt, iN_eq]; omega)) (fun _ => ?_)
      refine z_aload_n G dX7_moveOn_72 rfl ?_
      refine z_getR G fl_X7_9 rfl dX7_moveOn_73 (by assumption) (by assumption) ?_
      refine z_aload_n G dX7_moveOn_76 rfl ?_
      refine z_getI G fl_X7_22 rfl dX7_moveOn_77 (by assumption) ?_
      refine z_iload_n G dX7_moveOn_80 rfl ?_
      try simp (disch := omega) only [va_at', va_ne', va_up_up]
      refine z_iast G (s + 1) dX7_moveOn_81 (by assumption) (iN_ti (by omega)) (by omega) ?_
      try simp (disch := omega) only [va_at', va_ne', va_up_up]
      refine z_aload_n G dX7_moveOn_82 rfl ?_
      refine z_aload_n G dX7_moveOn_83 rfl ?_
      refine z_getI G fl_X7_22 rfl dX7_moveOn_84 (by assumption) ?_
      try simp (disch := omega) only [va_at', va_ne', va_up_up]
      refine z_putI G fl_X7_25 ft_7_4 rfl rfl rfl dX7_moveOn_87 (by assumption) ?_
      try simp (disch := omega) only [va_at', va_ne', va_up_up]
      refine z_aload_n G dX7_moveOn_90 rfl ?_
      refine z_dup G dX7_moveOn_91 rfl ?_
      refine z_getI G fl_X7_22 rfl dX7_moveOn_92 (by assumption) ?_
      refine z_iconst G (v := 1) dX7_moveOn_95 (by decide) ?_
      refine z_iadd G dX7_moveOn_96 ?_
      try simp (disch := omega) only [va_at', va_ne', va_up_up]
      refine z_putI G fl_X7_22 ft_7_3 rfl rfl rfl dX7_moveOn_97 (by assumption) ?_
      exact z_vret G hq dX7_moveOn_100 (h _ (fun k k1 k2 => by simp (disch := omega) only [va_at', va_ne', va_up_up]) (TR.push hr hl (by omega) v8 (by have hm : mostF w τ = 3 := (by unfold mostF; rw [if_pos (Or.inr (by rw [← hr.1]; exact b15))]); rw [hm]; omega) (by simp (disch := omega) only [va_at', va_ne', va_up_up]) (by simp (disch := omega) only [va_at', va_ne', va_up_up]) (by simp (disch := omega) only [va_at', va_ne', va_up_up]; rw [iN_lit, iN_add]) (by simp (disch := omega) only [va_at', va_ne', va_up_up]) (fun j hj => by simp (disch := omega) only [va_at', va_ne', va_up_up]) (by simp (disch := omega) only [va_at', va_ne', va_up_up])))
    · refine z_aload_n G dX7_moveOn_26 rfl ?_
      refine z_V G lk_X7_28 dX7_moveOn_27 [] rfl rfl rfl (Nat.le_of_ble_eq_true rfl) ⟨Nat.le_refl _, Nat.le_refl _⟩ (by assumption) ?_
      refine k_X7_goHome ⟨g1, g2, g3⟩ (fun I' f1 f2 f3 f4 f5 f6 => ?_)
      exact z_vret G hq dX7_moveOn_30 (h _ (fun k k1 k2 => by rw [f1 k k1 k2]; simp (disch := omega) only [va_at', va_ne', va_up_up]) (TR.home hr (by have hm : mostF w τ = 3 := (by unfold mostF; rw [if_pos (Or.inr (by rw [← hr.1]; exact b15))]); rw [hm]; simp (disch := omega) only [iN_lit, iN_add, iN_sub, iN_mul, iN_an, iN_le, iN_lt, iN_eq] at b23; omega) (by rw [← hr.1]; exact b15) (by rw [f2]; simp (disch := omega) only [va_at', va_ne', va_up_up]) (by rw [f3]; simp (disch := omega) only [va_at', va_ne', va_up_up]) f4 f5 (by rw [f6]; simp (disch := omega) only [va_at', va_ne', va_up_up])))
