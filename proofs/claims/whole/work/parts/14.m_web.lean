set_option maxHeartbeats 1000000 in
set_option maxRecDepth 20000 in
theorem k_X10_shows {E : pmE} {d : Nat} {S : pmS} {I : pmI} {P : pmP} {R : Option Value → pmS → pmI → pmP → Prop} {a t s : Nat} {tab : Int32} (ho : AR S a 11 124) (ht : tab.toInt = (t : Int)) (h5 : t < 5) (hs : (I a (47 + 10 * t)).toInt = (s : Int)) (h6 : s < 6) (h : R (some (.int (I a (48 + 10 * t + s)))) S I P) : pmX E d 0 0 yX10_shows [rr E a, .int tab] S I P R := by
  refine pm_of (by decide) cd_X10_shows (by decide) (by decide) (Nat.le_of_ble_eq_true rfl) ?_
  intro C G hq
  refine z_bipush G (v := 44) dX10_shows_0 (by decide) ?_
  refine z_bipush G (v := 10) dX10_shows_2 (by decide) ?_
  refine z_iload_n G dX10_shows_4 rfl ?_
  refine z_imul G dX10_shows_5 ?_
  refine z_iadd G dX10_shows_6 ?_
  refine z_istore_n G dX10_shows_7 (Nat.le_of_ble_eq_true rfl) rfl ?_
  refine z_aload_n G dX10_shows_8 rfl ?_
  refine z_iload_n G dX10_shows_9 rfl ?_
  refine z_iconst G (v := 4) dX10_shows_10 (by decide) ?_
  refine z_iadd G dX10_shows_11 ?_
  refine z_aload_n G dX10_shows_12 rfl ?_
  refine z_iload_n G dX10_shows_13 rfl ?_
  refine z_iconst G (v := 3) dX10_shows_14 (by decide) ?_
  refine z_iadd G dX10_shows_15 ?_
  refine z_iald G (47 + 10 * t) dX10_shows_16 (by assumption) (by simp (disch := omega) only [iN_lit, iN_add, iN_sub, iN_mul, iN_an, iN_of ht]; exact iN_ti2 (by omega) (by omega)) (by omega) ?_
  refine z_iadd G dX10_shows_17 ?_
  refine z_iald G (48 + 10 * t + s) dX10_shows_18 (by assumption) (by simp (disch := omega) only [iN_lit, iN_add, iN_sub, iN_mul, iN_an, iN_of ht, iN_of hs]; exact iN_ti2 (by omega) (by omega)) (by omega) ?_
  exact z_iret G hq dX10_shows_19 (h)
set_option maxHeartbeats 1000000 in
set_option maxRecDepth 20000 in
theorem k_X10_in {E : pmE} {d : Nat} {S : pmS} {I : pmI} {P : pmP} {R : Option Value → pmS → pmI → pmP → Prop} {v lo hi : Int32} (h1 : lo ≤ v ∧ v ≤ hi → R (some (.int 1)) S I P) (h0 : ¬ (lo ≤ v ∧ v ≤ hi) → R (some (.int 0)) S I P) : pmX E d 0 0 yX10_in [.int v, .int lo, .int hi] S I P R := by
  refine pm_of (by decide) cd_X10_in (by decide) (by decide) (Nat.le_of_ble_eq_true rfl) ?_
  intro C G hq
  refine z_iload_n G dX10_in_0 rfl ?_
  refine z_iload_n G dX10_in_1 rfl ?_
  refine z_icmp_lt G 14 dX10_in_2 (by decide) (fun b2 => ?_) (fun b2 => ?_)
  · refine z_iconst G (v := 0) dX10_in_14 (by decide) ?_
    exact z_zret G hq dX10_in_15 rfl (h0 (fun q => by simp only [ti_lt, ti_le] at *; omega))
  · refine z_iload_n G dX10_in_5 rfl ?_
    refine z_iload_n G dX10_in_6 rfl ?_
    refine z_icmp_gt G 14 dX10_in_7 (by decide) (fun b7 => ?_) (fun b7 => ?_)
    · refine z_iconst G (v := 0) dX10_in_14 (by decide) ?_
      exact z_zret G hq dX10_in_15 rfl (h0 (fun q => by simp only [ti_lt, ti_le] at *; omega))
    · refine z_iconst G (v := 1) dX10_in_10 (by decide) ?_
      refine z_goto G 15 dX10_in_11 (by decide) ?_
      exact z_zret G hq dX10_in_15 rfl (h1 (by simp only [ti_lt, ti_le] at *; omega))
set_option maxHeartbeats 1000000 in
set_option maxRecDepth 20000 in
theorem k_X10_tabNow {E : pmE} {d : Nat} {S : pmS} {I : pmI} {P : pmP} {R : Option Value → pmS → pmI → pmP → Prop} {a t : Nat} (ho : AR S a 11 124) (ht : (I a 2).toInt = (t : Int)) (h5 : t < 5) (h : ∀ v : Int32, v.toInt = ((44 + 10 * t : Nat) : Int) → R (some (.int v)) S I P) : pmX E d 0 0 yX10_tabNow [rr E a] S I P R := by
  refine pm_of (by decide) cd_X10_tabNow (by decide) (by decide) (Nat.le_of_ble_eq_true rfl) ?_
  intro C G hq
  refine z_bipush G (v := 44) dX10_tabNow_0 (by decide) ?_
  refine z_bipush G (v := 10) dX10_tabNow_2 (by decide) ?_
  refine z_aload_n G dX10_tabNow_4 rfl ?_
  refine z_iconst G (v := 2) dX10_tabNow_5 (by decide) ?_
  refine z_iald G (2) dX10_tabNow_6 (by assumption) (rfl) (by omega) ?_
  refine z_imul G dX10_tabNow_7 ?_
  refine z_iadd G dX10_tabNow_8 ?_
  exact z_iret G hq dX10_tabNow_9 (h _ (by simp (disch := omega) only [iN_lit, iN_add, iN_sub, iN_mul, iN_an, iN_of ht]; exact iN_ti2 (by omega) (by omega)))
set_option maxHeartbeats 1000000 in
set_option maxRecDepth 20000 in
theorem k_X10_seen {E : pmE} {d : Nat} {S : pmS} {I : pmI} {P : pmP} {R : Option Value → pmS → pmI → pmP → Prop} {a t s p : Nat} (ho : AR S a 11 124) (hn : Nw (I a) t s p) (h : R (some (.int (I a (48 + 10 * t + s)))) S I P) : pmX E (d + 1) 0 0 yX10_seen [rr E a] S I P R := by
  refine pm_of (by decide) cd_X10_seen (by decide) (by decide) (Nat.le_of_ble_eq_true rfl) ?_
  intro C G hq
  refine z_aload_n G dX10_seen_0 rfl ?_
  refine z_aload_n G dX10_seen_1 rfl ?_
  refine z_iconst G (v := 2) dX10_seen_2 (by decide) ?_
  refine z_iald G (2) dX10_seen_3 (by assumption) (rfl) (by omega) ?_
  refine z_S G lk_X10_153 dX10_seen_4 [_, _] rfl rfl rfl (Nat.le_of_ble_eq_true rfl) ⟨Nat.le_refl _, Nat.le_refl _⟩ ?_
  refine k_X10_shows ho hn.1 hn.2.1 hn.2.2.1 hn.2.2.2.1 ?_
  exact z_iret G hq dX10_seen_7 (h)
set_option maxHeartbeats 1000000 in
set_option maxRecDepth 20000 in
theorem k_X10_fresh {E : pmE} {d : Nat} {S : pmS} {I : pmI} {P : pmP} {R : Option Value → pmS → pmI → pmP → Prop} {a k : Nat} {place kind page : Int32} (ho : AR S a 11 124) (hk : place.toInt = (k : Int)) (h5 : k + 5 ≤ 124) (h : R none S (va_up I a (freshF (I a) k kind page)) P) : pmX E d 0 0 yX10_fresh [rr E a, .int place, .int kind, .int page] S I P R := by
  refine pm_of (by decide) cd_X10_fresh (by decide) (by decide) (Nat.le_of_ble_eq_true rfl) ?_
  intro C G hq
  refine z_aload_n G dX10_fresh_0 rfl ?_
  refine z_iload_n G dX10_fresh_1 rfl ?_
  refine z_iload_n G dX10_fresh_2 rfl ?_
  refine z_iast G (k) dX10_fresh_3 (by assumption) (hk) (by omega) ?_
  refine z_aload_n G dX10_fresh_4 rfl ?_
  refine z_iload_n G dX10_fresh_5 rfl ?_
  refine z_iconst G (v := 1) dX10_fresh_6 (by decide) ?_
  refine z_iadd G dX10_fresh_7 ?_
  refine z_iload_n G dX10_fresh_8 rfl ?_
  refine z_iast G (k + 1) dX10_fresh_9 (by assumption) (by simp (disch := omega) only [iN_lit, iN_add, iN_sub, iN_mul, iN_an, iN_of hk]; exact iN_ti2 (by omega) (by omega)) (by omega) ?_
  refine z_aload_n G dX10_fresh_10 rfl ?_
  refine z_iload_n G dX10_fresh_11 rfl ?_
  refine z_iconst G (v := 2) dX10_fresh_12 (by decide) ?_
  refine z_iadd G dX10_fresh_13 ?_
  refine z_iconst G (v := 1) dX10_fresh_14 (by decide) ?_
  refine z_iast G (k + 2) dX10_fresh_15 (by assumption) (by simp (disch := omega) only [iN_lit, iN_add, iN_sub, iN_mul, iN_an, iN_of hk]; exact iN_ti2 (by omega) (by omega)) (by omega) ?_
  refine z_aload_n G dX10_fresh_16 rfl ?_
  refine z_iload_n G dX10_fresh_17 rfl ?_
  refine z_iconst G (v := 3) dX10_fresh_18 (by decide) ?_
  refine z_iadd G dX10_fresh_19 ?_
  refine z_iconst G (v := 0) dX10_fresh_20 (by decide) ?_
  refine z_iast G (k + 3) dX10_fresh_21 (by assumption) (by simp (disch := omega) only [iN_lit, iN_add, iN_sub, iN_mul, iN_an, iN_of hk]; exact iN_ti2 (by omega) (by omega)) (by omega) ?_
  refine z_aload_n G dX10_fresh_22 rfl ?_
  refine z_iload_n G dX10_fresh_23 rfl ?_
  refine z_iconst G (v := 4) dX10_fresh_24 (by decide) ?_
  refine z_iadd G dX10_fresh_25 ?_
  refine z_iload_n G dX10_fresh_26 rfl ?_
  refine z_iast G (k + 4) dX10_fresh_27 (by assumption) (by simp (disch := omega) only [iN_lit, iN_add, iN_sub, iN_mul, iN_an, iN_of hk]; exact iN_ti2 (by omega) (by omega)) (by omega) ?_
  exact z_vret G hq dX10_fresh_28 (by simpa only [va_up_self, va_up_up, freshF] using h)
set_option maxHeartbeats 1000000 in
set_option maxRecDepth 20000 in
theorem k_X10_moves {E : pmE} {d : Nat} {S : pmS} {I : pmI} {P : pmP} {R : Option Value → pmS → pmI → pmP → Prop} {a f g : Nat} {fr to : Int32} (ho : AR S a 11 124) (hf : fr.toInt = (f : Int)) (hg : to.toInt = (g : Int)) (h1 : f + 10 ≤ 124) (h2 : g + 10 ≤ 124) (hd : g + 10 ≤ f ∨ f + 10 ≤ g) (h : R none S (va_up I a (va_cpy (I a) (I a) f g 10)) P) : pmX E d 0 0 yX10_moves [rr E a, .int fr, .int to] S I P R := by
  refine pm_of (by decide) cd_X10_moves (by decide) (by decide) (Nat.le_of_ble_eq_true rfl) ?_
  intro C G hq
  have loop : ∀ (n j : Nat) (x : Int32), x.toInt = (j : Int) → j + n = 10 → pmZ E C 2 [some (rr E a), some (.int fr), some (.int to), some (.int x)] [] S (va_up I a (va_cpy (I a) (I a) f g j)) P 0 0 := by
    intro n
    induction n with
    | zero =>
      intro j x hx hn
      refine z_iload_n G dX10_moves_2 rfl ?_
      refine z_bipush G (v := 10) dX10_moves_3 (by decide) ?_
      refine z_icmp_ge G 24 dX10_moves_5 (by decide) (fun b5 => ?_) (fun b5 => ?_)
      · exact z_vret G hq dX10_moves_24 (by rw [show j = 10 by omega]; exact h)
      · exact absurd (by simp only [ti_le, hx, Int32.reduceToInt]; omega) b5
    | succ n ih =>
      intro j x hx hn
      refine z_iload_n G dX10_moves_2 rfl ?_
      refine z_bipush G (v := 10) dX10_moves_3 (by decide) ?_
      refine z_icmp_ge G 24 dX10_moves_5 (by decide) (fun b5 => ?_) (fun b5 => ?_)
      · exact absurd b5 (by simp only [ti_le, hx, Int32.reduceToInt]; omega)
      · refine z_aload_n G dX10_moves_8 rfl ?_
        refine z_iload_n G dX10_moves_9 rfl ?_
        refine z_iload_n G dX10_moves_10 rfl ?_
        refine z_iadd G dX10_moves_11 ?_
        refine z_aload_n G dX10_moves_12 rfl ?_
        refine z_iload_n G dX10_moves_13 rfl ?_
        refine z_iload_n G dX10_moves_14 rfl ?_
        refine z_iadd G dX10_moves_15 ?_
        refine z_iald G (f + j) dX10_moves_16 (by assumption) (by simp (disch := omega) only [iN_lit, iN_add, iN_sub, iN_mul, iN_an, iN_of hf, iN_of hx]; exact iN_ti2 (by omega) (by omega)) (by omega) ?_
        refine z_iast G (g + j) dX10_moves_17 (by assumption) (by simp (disch := omega) only [iN_lit, iN_add, iN_sub, iN_mul, iN_an, iN_of hg, iN_of hx]; exact iN_ti2 (by omega) (by omega)) (by omega) ?_
        refine z_iinc G (v := 1) dX10_moves_18 (by decide) rfl rfl ?_
        refine z_goto G 2 dX10_moves_21 (by decide) ?_
        refine z_eq rfl rfl rfl ?_ rfl (ih (j + 1) _ (by simp (disch := omega) only [iN_lit, iN_add, iN_sub, iN_mul, iN_an, iN_of hx]; exact iN_ti2 (by omega) (by omega)) (by omega))
        rw [va_up_self, va_up_up, cpy_off (by omega), cpy_step]
  refine z_iconst G (v := 0) dX10_moves_0 (by decide) ?_
  refine z_istore_n G dX10_moves_1 (Nat.le_of_ble_eq_true rfl) rfl ?_
  refine z_eq rfl rfl rfl ?_ rfl (loop 10 0 0 rfl rfl)
  rw [cpy_0, va_up_id]
set_option maxHeartbeats 1000000 in
set_option maxRecDepth 20000 in
theorem k_X10_copies {E : pmE} {d : Nat} {S : pmS} {I : pmI} {P : pmP} {R : Option Value → pmS → pmI → pmP → Prop} {a b f g n1 n2 : Nat} {fr to : Int32} (ho : AR S a 11 n1) (ho2 : AR S b 11 n2) (hab : a ≠ b) (hf : fr.toInt = (f : Int)) (hg : to.toInt = (g : Int)) (h1 : f + 124 ≤ n1) (h2 : g + 124 ≤ n2) (h3 : n1 < 100000 ∧ n2 < 100000) (h : R none S (va_up I b (va_cpy (I a) (I b) f g 124)) P) : pmX E d 0 0 yX10_copies [rr E a, .int fr, rr E b, .int to] S I P R := by
  refine pm_of (by decide) cd_X10_copies (by decide) (by decide) (Nat.le_of_ble_eq_true rfl) ?_
  intro C G hq
  have loop : ∀ (n j : Nat) (x : Int32), x.toInt = (j : Int) → j + n = 124 → pmZ E C 3 [some (rr E a), some (.int fr), some (rr E b), some (.int to), some (.int x)] [] S (va_up I b (va_cpy (I a) (I b) f g j)) P 0 0 := by
    intro n
    induction n with
    | zero =>
      intro j x hx hn
      refine z_iload G dX10_copies_3 rfl ?_
      refine z_bipush G (v := 124) dX10_copies_5 (by decide) ?_
      refine z_icmp_ge G 28 dX10_copies_7 (by decide) (fun b7 => ?_) (fun b7 => ?_)
      · exact z_vret G hq dX10_copies_28 (by rw [show j = 124 by omega]; exact h)
      · exact absurd (by simp only [ti_le, hx, Int32.reduceToInt]; omega) b7
    | succ n ih =>
      intro j x hx hn
      refine z_iload G dX10_copies_3 rfl ?_
      refine z_bipush G (v := 124) dX10_copies_5 (by decide) ?_
      refine z_icmp_ge G 28 dX10_copies_7 (by decide) (fun b7 => ?_) (fun b7 => ?_)
      · exact absurd b7 (by simp only [ti_le, hx, Int32.reduceToInt]; omega)
      · refine z_aload_n G dX10_copies_10 rfl ?_
        refine z_iload_n G dX10_copies_11 rfl ?_
        refine z_iload G dX10_copies_12 rfl ?_
        refine z_iadd G dX10_copies_14 ?_
        refine z_aload_n G dX10_copies_15 rfl ?_
        refine z_iload_n G dX10_copies_16 rfl ?_
        refine z_iload G dX10_copies_17 rfl ?_
        refine z_iadd G dX10_copies_19 ?_
        refine z_iald G (f + j) dX10_copies_20 (by assumption) (by simp (disch := omega) only [iN_lit, iN_add, iN_sub, iN_mul, iN_an, iN_of hf, iN_of hx]; exact iN_ti2 (by omega) (by omega)) (by omega) ?_
        refine z_iast G (g + j) dX10_copies_21 (by assumption) (by simp (disch := omega) only [iN_lit, iN_add, iN_sub, iN_mul, iN_an, iN_of hg, iN_of hx]; exact iN_ti2 (by omega) (by omega)) (by omega) ?_
        refine z_iinc G (v := 1) dX10_copies_22 (by decide) rfl rfl ?_
        refine z_goto G 3 dX10_copies_25 (by decide) ?_
        refine z_eq rfl rfl rfl ?_ rfl (ih (j + 1) _ (by simp (disch := omega) only [iN_lit, iN_add, iN_sub, iN_mul, iN_an, iN_of hx]; exact iN_ti2 (by omega) (by omega)) (by omega))
        rw [va_up_self, va_up_up, va_up_ne _ _ hab, cpy_step]
  refine z_iconst G (v := 0) dX10_copies_0 (by decide) ?_
  refine z_istore G dX10_copies_1 (Nat.le_of_ble_eq_true rfl) rfl ?_
  refine z_eq rfl rfl rfl ?_ rfl (loop 124 0 0 rfl rfl)
  rw [cpy_0, va_up_id]
set_option maxHeartbeats 1000000 in
set_option maxRecDepth 20000 in
theorem k_X10_visits {E : pmE} {d : Nat} {S : pmS} {I : pmI} {P : pmP} {R : Option Value → pmS → pmI → pmP → Prop} {a t s p : Nat} (ho : AR S a 11 124) (hn : Nw (I a) t s p) (h : R none S (va_up I a (visF (I a) p)) P) : pmX E (d + 2) 0 0 yX10_visits [rr E a] S I P R := by
  refine pm_of (by decide) cd_X10_visits (by decide) (by decide) (Nat.le_of_ble_eq_true rfl) ?_
  intro C G hq
  have hp8 := hn.2.2.2.2.2
  refine z_iconst G (v := 4) dX10_visits_0 (by decide) ?_
  refine z_iconst G (v := 5) dX10_visits_1 (by decide) ?_
  refine z_aload_n G dX10_visits_2 rfl ?_
  refine z_S G lk_X10_157 dX10_visits_3 [_] rfl rfl rfl (Nat.le_of_ble_eq_true rfl) ⟨Nat.le_refl _, Nat.le_refl _⟩ ?_
  refine k_X10_seen ho hn ?_
  refine z_imul G dX10_visits_6 ?_
  refine z_iadd G dX10_visits_7 ?_
  refine z_iconst G (v := 4) dX10_visits_8 (by decide) ?_
  refine z_iadd G dX10_visits_9 ?_
  refine z_istore_n G dX10_visits_10 (Nat.le_of_ble_eq_true rfl) rfl ?_
  refine z_aload_n G dX10_visits_11 rfl ?_
  refine z_iload_n G dX10_visits_12 rfl ?_
  refine z_dup2 G dX10_visits_13 rfl rfl ?_
  refine z_iald G (8 + 5 * p) dX10_visits_14 (by assumption) (by simp (disch := omega) only [iN_lit, iN_add, iN_sub, iN_mul, iN_an, iN_of (hn.2.2.2.2.1)]; exact iN_ti2 (by omega) (by omega)) (by have := hn.2.2.2.2.2; omega) ?_
  refine z_aload_n G dX10_visits_15 rfl ?_
  refine z_iload_n G dX10_visits_16 rfl ?_
  refine z_iald G (8 + 5 * p) dX10_visits_17 (by assumption) (by simp (disch := omega) only [iN_lit, iN_add, iN_sub, iN_mul, iN_an, iN_of (hn.2.2.2.2.1)]; exact iN_ti2 (by omega) (by omega)) (by have := hn.2.2.2.2.2; omega) ?_
  refine z_sipush G (v := 999) dX10_visits_18 (by decide) ?_
  refine z_icmp_ge G 28 dX10_visits_21 (by decide) (fun b21 => ?_) (fun b21 => ?_)
  · refine z_iconst G (v := 0) dX10_visits_28 (by decide) ?_
    refine z_iadd G dX10_visits_29 ?_
    refine z_iast G (8 + 5 * p) dX10_visits_30 (by assumption) (by simp (disch := omega) only [iN_lit, iN_add, iN_sub, iN_mul, iN_an, iN_of (hn.2.2.2.2.1)]; exact iN_ti2 (by omega) (by omega)) (by have := hn.2.2.2.2.2; omega) ?_
    exact z_vret G hq dX10_visits_31 (by simpa only [visF, if_neg (show ¬ I a (8 + 5 * p) < 999 by simp only [ti_lt, ti_le] at *; omega)] using h)
  · refine z_iconst G (v := 1) dX10_visits_24 (by decide) ?_
    refine z_goto G 29 dX10_visits_25 (by decide) ?_
    refine z_iadd G dX10_visits_29 ?_
    refine z_iast G (8 + 5 * p) dX10_visits_30 (by assumption) (by simp (disch := omega) only [iN_lit, iN_add, iN_sub, iN_mul, iN_an, iN_of (hn.2.2.2.2.1)]; exact iN_ti2 (by omega) (by omega)) (by have := hn.2.2.2.2.2; omega) ?_
    exact z_vret G hq dX10_visits_31 (by simpa only [visF, if_pos (show I a (8 + 5 * p) < 999 by simp only [ti_lt, ti_le] at *; omega)] using h)
set_option maxHeartbeats 1000000 in
set_option maxRecDepth 20000 in
theorem k_X10_mayFollow {E : pmE} {d : Nat} {S : pmS} {I : pmI} {P : pmP} {R : Option Value → pmS → pmI → pmP → Prop} {a t s p : Nat} {j : Int32} (ho : AR S a 11 124) (hn : Nw (I a) t s p) (h1 : j < I a (4 + 5 * p) ∧ (¬ I a (44 + 10 * t) = 3 ∨ I a 1 < 5) → R (some (.int 1)) S I P) (h0 : ¬ (j < I a (4 + 5 * p) ∧ (¬ I a (44 + 10 * t) = 3 ∨ I a 1 < 5)) → R (some (.int 0)) S I P) : pmX E (d + 2) 0 0 yX10_mayFollow [rr E a, .int j] S I P R := by
  refine pm_of (by decide) cd_X10_mayFollow (by decide) (by decide) (Nat.le_of_ble_eq_true rfl) ?_
  intro C G hq
  have hp8 := hn.2.2.2.2.2
  have ht5 := hn.2.1
  refine z_iload_n G dX10_mayFollow_0 rfl ?_
  refine z_aload_n G dX10_mayFollow_1 rfl ?_
  refine z_iconst G (v := 4) dX10_mayFollow_2 (by decide) ?_
  refine z_iconst G (v := 5) dX10_mayFollow_3 (by decide) ?_
  refine z_aload_n G dX10_mayFollow_4 rfl ?_
  refine z_S G lk_X10_157 dX10_mayFollow_5 [_] rfl rfl rfl (Nat.le_of_ble_eq_true rfl) ⟨Nat.le_refl _, Nat.le_refl _⟩ ?_
  refine k_X10_seen ho hn ?_
  refine z_imul G dX10_mayFollow_8 ?_
  refine z_iadd G dX10_mayFollow_9 ?_
  refine z_iald G (4 + 5 * p) dX10_mayFollow_10 (by assumption) (by simp (disch := omega) only [iN_lit, iN_add, iN_sub, iN_mul, iN_an, iN_of (hn.2.2.2.2.1)]; exact iN_ti2 (by omega) (by omega)) (by omega) ?_
  refine z_icmp_ge G 35 dX10_mayFollow_11 (by decide) (fun b11 => ?_) (fun b11 => ?_)
  · refine z_iconst G (v := 0) dX10_mayFollow_35 (by decide) ?_
    exact z_zret G hq dX10_mayFollow_36 rfl (h0 (fun q => by simp only [ti_lt, ti_le] at *; omega))
  · refine z_aload_n G dX10_mayFollow_14 rfl ?_
    refine z_aload_n G dX10_mayFollow_15 rfl ?_
    refine z_S G lk_X10_161 dX10_mayFollow_16 [_] rfl rfl rfl (Nat.le_of_ble_eq_true rfl) ⟨Nat.le_refl _, Nat.le_refl _⟩ ?_
    refine k_X10_tabNow ho hn.1 hn.2.1 (fun v hv => ?_)
    refine z_iald G (44 + 10 * t) dX10_mayFollow_19 (by assumption) (hv) (by omega) ?_
    refine z_iconst G (v := 3) dX10_mayFollow_20 (by decide) ?_
    refine z_icmp_ne G 31 dX10_mayFollow_21 (by decide) (fun b21 => ?_) (fun b21 => ?_)
    · refine z_iconst G (v := 1) dX10_mayFollow_31 (by decide) ?_
      refine z_goto G 36 dX10_mayFollow_32 (by decide) ?_
      exact z_zret G hq dX10_mayFollow_36 rfl (h1 ⟨by simp only [ti_lt, ti_le] at *; omega, Or.inl b21⟩)
    · refine z_aload_n G dX10_mayFollow_24 rfl ?_
      refine z_iconst G (v := 1) dX10_mayFollow_25 (by decide) ?_
      refine z_iald G (1) dX10_mayFollow_26 (by assumption) (rfl) (by omega) ?_
      refine z_iconst G (v := 5) dX10_mayFollow_27 (by decide) ?_
      refine z_icmp_ge G 35 dX10_mayFollow_28 (by decide) (fun b28 => ?_) (fun b28 => ?_)
      · refine z_iconst G (v := 0) dX10_mayFollow_35 (by decide) ?_
        exact z_zret G hq dX10_mayFollow_36 rfl (h0 (fun q => q.2.elim (fun z => z b21) (fun z => by simp only [ti_lt, ti_le] at *; omega)))
      · refine z_iconst G (v := 1) dX10_mayFollow_31 (by decide) ?_
        refine z_goto G 36 dX10_mayFollow_32 (by decide) ?_
        exact z_zret G hq dX10_mayFollow_36 rfl (h1 ⟨by simp only [ti_lt, ti_le] at *; omega, Or.inr (by simp only [ti_lt, ti_le] at *; omega)⟩)
set_option maxHeartbeats 1000000 in
set_option maxRecDepth 20000 in
theorem k_X10_mayGo {E : pmE} {d : Nat} {S : pmS} {I : pmI} {P : pmP} {R : Option Value → pmS → pmI → pmP → Prop} {a t : Nat} {way : Int32} (ho : AR S a 11 124) (ht : (I a 2).toInt = (t : Int)) (h5 : t < 5) (h1 : (¬ I a (44 + 10 * t) = 5 ∧ (if way = 0 then 0 < I a (47 + 10 * t) else I a (47 + 10 * t) + 1 < I a (46 + 10 * t))) → R (some (.int 1)) S I P) (h0 : ¬ (¬ I a (44 + 10 * t) = 5 ∧ (if way = 0 then 0 < I a (47 + 10 * t) else I a (47 + 10 * t) + 1 < I a (46 + 10 * t))) → R (some (.int 0)) S I P) : pmX E (d + 1) 0 0 yX10_mayGo [rr E a, .int way] S I P R := by
  refine pm_of (by decide) cd_X10_mayGo (by decide) (by decide) (Nat.le_of_ble_eq_true rfl) ?_
  intro C G hq
  refine z_aload_n G dX10_mayGo_0 rfl ?_
  refine z_S G lk_X10_161 dX10_mayGo_1 [_] rfl rfl rfl (Nat.le_of_ble_eq_true rfl) ⟨Nat.le_refl _, Nat.le_refl _⟩ ?_
  refine k_X10_tabNow ho ht h5 (fun v hv => ?_)
  refine z_istore_n G dX10_mayGo_4 (Nat.le_of_ble_eq_true rfl) rfl ?_
  refine z_aload_n G dX10_mayGo_5 rfl ?_
  refine z_iload_n G dX10_mayGo_6 rfl ?_
  refine z_iald G (44 + 10 * t) dX10_mayGo_7 (by assumption) (hv) (by omega) ?_
  refine z_iconst G (v := 5) dX10_mayGo_8 (by decide) ?_
  refine z_icmp_eq G 46 dX10_mayGo_9 (by decide) (fun b9 => ?_) (fun b9 => ?_)
  · refine z_iconst G (v := 0) dX10_mayGo_46 (by decide) ?_
    exact z_zret G hq dX10_mayGo_47 rfl (h0 (fun q => q.1 b9))
  · refine z_iload_n G dX10_mayGo_12 rfl ?_
    refine z_if_ne G 27 dX10_mayGo_13 (by decide) (fun b13 => ?_) (fun b13 => ?_)
    · refine z_aload_n G dX10_mayGo_27 rfl ?_
      refine z_iload_n G dX10_mayGo_28 rfl ?_
      refine z_iconst G (v := 3) dX10_mayGo_29 (by decide) ?_
      refine z_iadd G dX10_mayGo_30 ?_
      refine z_iald G (47 + 10 * t) dX10_mayGo_31 (by assumption) (by simp (disch := omega) only [iN_lit, iN_add, iN_sub, iN_mul, iN_an, iN_of hv]; exact iN_ti2 (by omega) (by omega)) (by omega) ?_
      refine z_iconst G (v := 1) dX10_mayGo_32 (by decide) ?_
      refine z_iadd G dX10_mayGo_33 ?_
      refine z_aload_n G dX10_mayGo_34 rfl ?_
      refine z_iload_n G dX10_mayGo_35 rfl ?_
      refine z_iconst G (v := 2) dX10_mayGo_36 (by decide) ?_
      refine z_iadd G dX10_mayGo_37 ?_
      refine z_iald G (46 + 10 * t) dX10_mayGo_38 (by assumption) (by simp (disch := omega) only [iN_lit, iN_add, iN_sub, iN_mul, iN_an, iN_of hv]; exact iN_ti2 (by omega) (by omega)) (by omega) ?_
      refine z_icmp_ge G 46 dX10_mayGo_39 (by decide) (fun b39 => ?_) (fun b39 => ?_)
      · refine z_iconst G (v := 0) dX10_mayGo_46 (by decide) ?_
        exact z_zret G hq dX10_mayGo_47 rfl (h0 (fun q => by rw [if_neg b13] at q; simp only [ti_lt, ti_le] at *; omega))
      · refine z_iconst G (v := 1) dX10_mayGo_42 (by decide) ?_
        refine z_goto G 47 dX10_mayGo_43 (by decide) ?_
        exact z_zret G hq dX10_mayGo_47 rfl (h1 ⟨b9, by rw [if_neg b13]; simp only [ti_lt, ti_le] at *; omega⟩)
    · refine z_aload_n G dX10_mayGo_16 rfl ?_
      refine z_iload_n G dX10_mayGo_17 rfl ?_
      refine z_iconst G (v := 3) dX10_mayGo_18 (by decide) ?_
      refine z_iadd G dX10_mayGo_19 ?_
      refine z_iald G (47 + 10 * t) dX10_mayGo_20 (by assumption) (by simp (disch := omega) only [iN_lit, iN_add, iN_sub, iN_mul, iN_an, iN_of hv]; exact iN_ti2 (by omega) (by omega)) (by omega) ?_
      refine z_if_le G 46 dX10_mayGo_21 (by decide) (fun b21 => ?_) (fun b21 => ?_)
      · refine z_iconst G (v := 0) dX10_mayGo_46 (by decide) ?_
        exact z_zret G hq dX10_mayGo_47 rfl (h0 (fun q => by rw [if_pos b13] at q; simp only [ti_lt, ti_le] at *; omega))
      · refine z_goto G 42 dX10_mayGo_24 (by decide) ?_
        refine z_iconst G (v := 1) dX10_mayGo_42 (by decide) ?_
        refine z_goto G 47 dX10_mayGo_43 (by decide) ?_
        exact z_zret G hq dX10_mayGo_47 rfl (h1 ⟨b9, by rw [if_pos b13]; simp only [ti_lt, ti_le] at *; omega⟩)
def goesF (w : Nat → Int32) (t : Nat) (way : Int32) : Nat → Int32 := va_up w (47 + 10 * t) (w (47 + 10 * t) + (if way = 0 then -1 else 1))
set_option maxHeartbeats 1000000 in
set_option maxRecDepth 20000 in
theorem k_X10_goes {E : pmE} {d : Nat} {S : pmS} {I : pmI} {P : pmP} {R : Option Value → pmS → pmI → pmP → Prop} {a t : Nat} {way : Int32} (ho : AR S a 11 124) (ht : (I a 2).toInt = (t : Int)) (h5 : t < 5) (h : R none S (va_up I a (goesF (I a) t way)) P) : pmX E (d + 1) 0 0 yX10_goes [rr E a, .int way] S I P R := by
  refine pm_of (by decide) cd_X10_goes (by decide) (by decide) (Nat.le_of_ble_eq_true rfl) ?_
  intro C G hq
  refine z_aload_n G dX10_goes_0 rfl ?_
  refine z_aload_n G dX10_goes_1 rfl ?_
  refine z_S G lk_X10_161 dX10_goes_2 [_] rfl rfl rfl (Nat.le_of_ble_eq_true rfl) ⟨Nat.le_refl _, Nat.le_refl _⟩ ?_
  refine k_X10_tabNow ho ht h5 (fun v hv => ?_)
  refine z_iconst G (v := 3) dX10_goes_5 (by decide) ?_
  refine z_iadd G dX10_goes_6 ?_
  refine z_dup2 G dX10_goes_7 rfl rfl ?_
  refine z_iald G (47 + 10 * t) dX10_goes_8 (by assumption) (by simp (disch := omega) only [iN_lit, iN_add, iN_sub, iN_mul, iN_an, iN_of hv]; exact iN_ti2 (by omega) (by omega)) (by omega) ?_
  refine z_iload_n G dX10_goes_9 rfl ?_
  refine z_if_ne G 17 dX10_goes_10 (by decide) (fun b10 => ?_) (fun b10 => ?_)
  · refine z_iconst G (v := 1) dX10_goes_17 (by decide) ?_
    refine z_iadd G dX10_goes_18 ?_
    refine z_iast G (47 + 10 * t) dX10_goes_19 (by assumption) (by simp (disch := omega) only [iN_lit, iN_add, iN_sub, iN_mul, iN_an, iN_of hv]; exact iN_ti2 (by omega) (by omega)) (by omega) ?_
    exact z_vret G hq dX10_goes_20 (by simpa only [goesF, if_neg b10] using h)
  · refine z_iconst G (v := -1) dX10_goes_13 (by decide) ?_
    refine z_goto G 18 dX10_goes_14 (by decide) ?_
    refine z_iadd G dX10_goes_18 ?_
    refine z_iast G (47 + 10 * t) dX10_goes_19 (by assumption) (by simp (disch := omega) only [iN_lit, iN_add, iN_sub, iN_mul, iN_an, iN_of hv]; exact iN_ti2 (by omega) (by omega)) (by omega) ?_
    exact z_vret G hq dX10_goes_20 (by simpa only [goesF, if_pos b10] using h)
set_option maxHeartbeats 1000000 in
set_option maxRecDepth 20000 in
theorem k_X10_comes {E : pmE} {d : Nat} {S : pmS} {I : pmI} {P : pmP} {R : Option Value → pmS → pmI → pmP → Prop} {a t s : Nat} {page : Int32} (ho : AR S a 11 124) (ht : (I a 2).toInt = (t : Int)) (h5 : t < 5) (hs : (I a (47 + 10 * t)).toInt = (s : Int)) (h6 : s < 6) (h : R none S (va_up I a (comesF (I a) t s page)) P) : pmX E (d + 1) 0 0 yX10_comes [rr E a, .int page] S I P R := by
  refine pm_of (by decide) cd_X10_comes (by decide) (by decide) (Nat.le_of_ble_eq_true rfl) ?_
  intro C G hq
  have three : ∀ (k most : Int32) (M : Nat), k.toInt = ((44 + 10 * t : Nat) : Int) → most.toInt = (M : Int) → M ≤ 6 → mostF (I a) t = M → pmZ E C 35 [some (rr E a), some (.int page), some (.int k), some (.int (iN (s + 2))), some (.int most), none] [] S I P 0 0 := by
    intro k most M hk hm hM6 hM
    have loop : ∀ (n j : Nat) (x : Int32), x.toInt = (j : Int) → j + n = s → s + 2 > M → ¬ I a (44 + 10 * t) = 5 → pmZ E C 71 [some (rr E a), some (.int page), some (.int k), some (.int (iN (s + 2))), some (.int most), some (.int x)] [] S (va_up I a (va_cpy (I a) (I a) (49 + 10 * t) (48 + 10 * t) j)) P 0 0 := by
      intro n
      induction n with
      | zero =>
        intro j x hx hn hgt hne
        refine z_iload G dX10_comes_71 rfl ?_
        refine z_iconst G (v := 1) dX10_comes_73 (by decide) ?_
        refine z_iadd G dX10_comes_74 ?_
        refine z_iload_n G dX10_comes_75 rfl ?_
        refine z_iconst G (v := 1) dX10_comes_76 (by decide) ?_
        refine z_isub G dX10_comes_77 ?_
        refine z_icmp_ge G 105 dX10_comes_78 (by decide) (fun b78 => ?_) (fun b78 => ?_)
        · refine z_iinc G (v := -1) dX10_comes_105 (by decide) rfl rfl ?_
          refine z_aload_n G dX10_comes_108 rfl ?_
          refine z_iload_n G dX10_comes_109 rfl ?_
          refine z_iconst G (v := 4) dX10_comes_110 (by decide) ?_
          refine z_iadd G dX10_comes_111 ?_
          refine z_iload_n G dX10_comes_112 rfl ?_
          refine z_iadd G dX10_comes_113 ?_
          refine z_iconst G (v := 1) dX10_comes_114 (by decide) ?_
          refine z_isub G dX10_comes_115 ?_
          refine z_iload_n G dX10_comes_116 rfl ?_
          refine z_iast G (48 + 10 * t + s) dX10_comes_117 (by assumption) (by simp (disch := omega) only [iN_lit, iN_add, iN_sub, iN_mul, iN_an, iN_of hk]; exact iN_ti2 (by omega) (by omega)) (by omega) ?_
          refine z_aload_n G dX10_comes_118 rfl ?_
          refine z_iload_n G dX10_comes_119 rfl ?_
          refine z_iconst G (v := 3) dX10_comes_120 (by decide) ?_
          refine z_iadd G dX10_comes_121 ?_
          refine z_iload_n G dX10_comes_122 rfl ?_
          refine z_iconst G (v := 1) dX10_comes_123 (by decide) ?_
          refine z_isub G dX10_comes_124 ?_
          refine z_top (y := iN s) (by simp (disch := omega) only [iN_lit, iN_add, iN_sub, iN_mul, iN_an] <;> exact congrArg iN (by omega)) ?_
          refine z_iast G (47 + 10 * t) dX10_comes_125 (by assumption) (by simp (disch := omega) only [iN_lit, iN_add, iN_sub, iN_mul, iN_an, iN_of hk]; exact iN_ti2 (by omega) (by omega)) (by omega) ?_
          refine z_aload_n G dX10_comes_126 rfl ?_
          refine z_iload_n G dX10_comes_127 rfl ?_
          refine z_iconst G (v := 2) dX10_comes_128 (by decide) ?_
          refine z_iadd G dX10_comes_129 ?_
          refine z_iload_n G dX10_comes_130 rfl ?_
          refine z_top (y := iN (s + 1)) (by simp (disch := omega) only [iN_lit, iN_add, iN_sub, iN_mul, iN_an] <;> exact congrArg iN (by omega)) ?_
          refine z_iast G (46 + 10 * t) dX10_comes_131 (by assumption) (by simp (disch := omega) only [iN_lit, iN_add, iN_sub, iN_mul, iN_an, iN_of hk]; exact iN_ti2 (by omega) (by omega)) (by omega) ?_
          exact z_vret G hq dX10_comes_132 (by rw [show j = s by omega]; simpa only [comesF, hM, if_pos hgt, if_neg hne, va_up_self, va_up_up] using h)
        · exact absurd (by simp (disch := omega) only [iN_lit, iN_add, iN_sub, iN_mul, iN_an, iN_le, iN_lt, iN_eq, iN_of hx]; omega) b78
      | succ n ih =>
        intro j x hx hn hgt hne
        refine z_iload G dX10_comes_71 rfl ?_
        refine z_iconst G (v := 1) dX10_comes_73 (by decide) ?_
        refine z_iadd G dX10_comes_74 ?_
        refine z_iload_n G dX10_comes_75 rfl ?_
        refine z_iconst G (v := 1) dX10_comes_76 (by decide) ?_
        refine z_isub G dX10_comes_77 ?_
        refine z_icmp_ge G 105 dX10_comes_78 (by decide) (fun b78 => ?_) (fun b78 => ?_)
        · exact absurd b78 (by simp (disch := omega) only [iN_lit, iN_add, iN_sub, iN_mul, iN_an, iN_le, iN_lt, iN_eq, iN_of hx]; omega)
        · refine z_aload_n G dX10_comes_81 rfl ?_
          refine z_iload_n G dX10_comes_82 rfl ?_
          refine z_iconst G (v := 4) dX10_comes_83 (by decide) ?_
          refine z_iadd G dX10_comes_84 ?_
          refine z_iload G dX10_comes_85 rfl ?_
          refine z_iadd G dX10_comes_87 ?_
          refine z_aload_n G dX10_comes_88 rfl ?_
          refine z_iload_n G dX10_comes_89 rfl ?_
          refine z_iconst G (v := 4) dX10_comes_90 (by decide) ?_
          refine z_iadd G dX10_comes_91 ?_
          refine z_iload G dX10_comes_92 rfl ?_
          refine z_iadd G dX10_comes_94 ?_
          refine z_iconst G (v := 1) dX10_comes_95 (by decide) ?_
          refine z_iadd G dX10_comes_96 ?_
          refine z_iald G (49 + 10 * t + j) dX10_comes_97 (by assumption) (by simp (disch := omega) only [iN_lit, iN_add, iN_sub, iN_mul, iN_an, iN_of hk, iN_of hx]; exact iN_ti2 (by omega) (by omega)) (by omega) ?_
          refine z_iast G (48 + 10 * t + j) dX10_comes_98 (by assumption) (by simp (disch := omega) only [iN_lit, iN_add, iN_sub, iN_mul, iN_an, iN_of hk, iN_of hx]; exact iN_ti2 (by omega) (by omega)) (by omega) ?_
          refine z_iinc G (v := 1) dX10_comes_99 (by decide) rfl rfl ?_
          refine z_goto G 71 dX10_comes_102 (by decide) ?_
          refine z_eq rfl rfl rfl ?_ rfl (ih (j + 1) _ (by simp (disch := omega) only [iN_lit, iN_add, iN_sub, iN_mul, iN_an, iN_of hx]; exact iN_ti2 (by omega) (by omega)) (by omega) hgt hne)
          rw [va_up_self, va_up_up, cpy_off (by omega), cpy_step]
    refine z_iload_n G dX10_comes_35 rfl ?_
    refine z_iload G dX10_comes_36 rfl ?_
    refine z_icmp_le G 62 dX10_comes_38 (by decide) (fun b38 => ?_) (fun b38 => ?_)
    · refine z_iload_n G dX10_comes_62 rfl ?_
      refine z_iload G dX10_comes_63 rfl ?_
      refine z_icmp_le G 108 dX10_comes_65 (by decide) (fun b65 => ?_) (fun b65 => ?_)
      · have hle : ¬ s + 2 > M := by simp (disch := omega) only [iN_lit, iN_add, iN_sub, iN_mul, iN_an, iN_le, iN_lt, iN_eq, iN_of hm] at b38; omega
        refine z_aload_n G dX10_comes_108 rfl ?_
        refine z_iload_n G dX10_comes_109 rfl ?_
        refine z_iconst G (v := 4) dX10_comes_110 (by decide) ?_
        refine z_iadd G dX10_comes_111 ?_
        refine z_iload_n G dX10_comes_112 rfl ?_
        refine z_iadd G dX10_comes_113 ?_
        refine z_iconst G (v := 1) dX10_comes_114 (by decide) ?_
        refine z_isub G dX10_comes_115 ?_
        refine z_iload_n G dX10_comes_116 rfl ?_
        refine z_iast G (49 + 10 * t + s) dX10_comes_117 (by assumption) (by simp (disch := omega) only [iN_lit, iN_add, iN_sub, iN_mul, iN_an, iN_of hk]; exact iN_ti2 (by omega) (by omega)) (by omega) ?_
        refine z_aload_n G dX10_comes_118 rfl ?_
        refine z_iload_n G dX10_comes_119 rfl ?_
        refine z_iconst G (v := 3) dX10_comes_120 (by decide) ?_
        refine z_iadd G dX10_comes_121 ?_
        refine z_iload_n G dX10_comes_122 rfl ?_
        refine z_iconst G (v := 1) dX10_comes_123 (by decide) ?_
        refine z_isub G dX10_comes_124 ?_
        refine z_top (y := iN (s + 1)) (by simp (disch := omega) only [iN_lit, iN_add, iN_sub, iN_mul, iN_an] <;> exact congrArg iN (by omega)) ?_
        refine z_iast G (47 + 10 * t) dX10_comes_125 (by assumption) (by simp (disch := omega) only [iN_lit, iN_add, iN_sub, iN_mul, iN_an, iN_of hk]; exact iN_ti2 (by omega) (by omega)) (by omega) ?_
        refine z_aload_n G dX10_comes_126 rfl ?_
        refine z_iload_n G dX10_comes_127 rfl ?_
        refine z_iconst G (v := 2) dX10_comes_128 (by decide) ?_
        refine z_iadd G dX10_comes_129 ?_
        refine z_iload_n G dX10_comes_130 rfl ?_
        refine z_iast G (46 + 10 * t) dX10_comes_131 (by assumption) (by simp (disch := omega) only [iN_lit, iN_add, iN_sub, iN_mul, iN_an, iN_of hk]; exact iN_ti2 (by omega) (by omega)) (by omega) ?_
        exact z_vret G hq dX10_comes_132 (by simpa only [comesF, hM, if_neg hle, va_up_self, va_up_up] using h)
      · exact absurd b38 b65
    · refine z_aload_n G dX10_comes_41 rfl ?_
      refine z_iload_n G dX10_comes_42 rfl ?_
      refine z_iald G (44 + 10 * t) dX10_comes_43 (by assumption) (hk) (by omega) ?_
      refine z_iconst G (v := 5) dX10_comes_44 (by decide) ?_
      refine z_icmp_ne G 62 dX10_comes_45 (by decide) (fun b45 => ?_) (fun b45 => ?_)
      · refine z_iload_n G dX10_comes_62 rfl ?_
        refine z_iload G dX10_comes_63 rfl ?_
        refine z_icmp_le G 108 dX10_comes_65 (by decide) (fun b65 => ?_) (fun b65 => ?_)
        · exact absurd b65 b38
        · refine z_iconst G (v := 0) dX10_comes_68 (by decide) ?_
          refine z_istore G dX10_comes_69 (Nat.le_of_ble_eq_true rfl) rfl ?_
          have hgt : s + 2 > M := by simp (disch := omega) only [iN_lit, iN_add, iN_sub, iN_mul, iN_an, iN_le, iN_lt, iN_eq, iN_of hm] at b38; omega
          refine z_eq rfl rfl rfl ?_ rfl (loop s 0 0 rfl (by omega) hgt b45)
          rw [cpy_0, va_up_id]
      · refine z_aload_n G dX10_comes_48 rfl ?_
        refine z_iload_n G dX10_comes_49 rfl ?_
        refine z_iconst G (v := 5) dX10_comes_50 (by decide) ?_
        refine z_aload_n G dX10_comes_51 rfl ?_
        refine z_iload_n G dX10_comes_52 rfl ?_
        refine z_iconst G (v := 1) dX10_comes_53 (by decide) ?_
        refine z_iadd G dX10_comes_54 ?_
        refine z_iald G (45 + 10 * t) dX10_comes_55 (by assumption) (by simp (disch := omega) only [iN_lit, iN_add, iN_sub, iN_mul, iN_an, iN_of hk]; exact iN_ti2 (by omega) (by omega)) (by omega) ?_
        refine z_S G lk_X10_130 dX10_comes_56 [_, _, _, _] rfl rfl rfl (Nat.le_of_ble_eq_true rfl) ⟨Nat.le_refl _, Nat.le_refl _⟩ ?_
        refine k_X10_fresh ho hk (by omega) ?_
        refine z_goto G 132 dX10_comes_59 (by decide) ?_
        exact z_vret G hq dX10_comes_132 (by have hgt : s + 2 > M := (by simp (disch := omega) only [iN_lit, iN_add, iN_sub, iN_mul, iN_an, iN_le, iN_lt, iN_eq, iN_of hm] at b38; omega); simpa only [comesF, hM, if_pos hgt, if_pos b45] using h)
  refine z_aload_n G dX10_comes_0 rfl ?_
  refine z_S G lk_X10_161 dX10_comes_1 [_] rfl rfl rfl (Nat.le_of_ble_eq_true rfl) ⟨Nat.le_refl _, Nat.le_refl _⟩ ?_
  refine k_X10_tabNow ho ht h5 (fun k hk => ?_)
  refine z_istore_n G dX10_comes_4 (Nat.le_of_ble_eq_true rfl) rfl ?_
  refine z_aload_n G dX10_comes_5 rfl ?_
  refine z_iload_n G dX10_comes_6 rfl ?_
  refine z_iconst G (v := 3) dX10_comes_7 (by decide) ?_
  refine z_iadd G dX10_comes_8 ?_
  refine z_iald G (47 + 10 * t) dX10_comes_9 (by assumption) (by simp (disch := omega) only [iN_lit, iN_add, iN_sub, iN_mul, iN_an, iN_of hk]; exact iN_ti2 (by omega) (by omega)) (by omega) ?_
  refine z_iconst G (v := 2) dX10_comes_10 (by decide) ?_
  refine z_iadd G dX10_comes_11 ?_
  refine z_top (y := iN (s + 2)) (by simp (disch := omega) only [iN_lit, iN_add, iN_sub, iN_mul, iN_an, iN_of hs] <;> exact congrArg iN (by omega)) ?_
  refine z_istore_n G dX10_comes_12 (Nat.le_of_ble_eq_true rfl) rfl ?_
  refine z_aload_n G dX10_comes_13 rfl ?_
  refine z_iload_n G dX10_comes_14 rfl ?_
  refine z_iald G (44 + 10 * t) dX10_comes_15 (by assumption) (hk) (by omega) ?_
  refine z_iconst G (v := 2) dX10_comes_16 (by decide) ?_
  refine z_icmp_eq G 27 dX10_comes_17 (by decide) (fun b17 => ?_) (fun b17 => ?_)
  · refine z_iconst G (v := 3) dX10_comes_27 (by decide) ?_
    refine z_goto G 33 dX10_comes_28 (by decide) ?_
    refine z_istore G dX10_comes_33 (Nat.le_of_ble_eq_true rfl) rfl ?_
    exact three k 3 3 hk rfl (by omega) (by simp [mostF, b17])
  · refine z_aload_n G dX10_comes_20 rfl ?_
    refine z_iload_n G dX10_comes_21 rfl ?_
    refine z_iald G (44 + 10 * t) dX10_comes_22 (by assumption) (hk) (by omega) ?_
    refine z_iconst G (v := 5) dX10_comes_23 (by decide) ?_
    refine z_icmp_ne G 31 dX10_comes_24 (by decide) (fun b24 => ?_) (fun b24 => ?_)
    · refine z_bipush G (v := 6) dX10_comes_31 (by decide) ?_
      refine z_istore G dX10_comes_33 (Nat.le_of_ble_eq_true rfl) rfl ?_
      exact three k 6 6 hk rfl (by omega) (by simp [mostF, b17, b24])
    · refine z_iconst G (v := 3) dX10_comes_27 (by decide) ?_
      refine z_goto G 33 dX10_comes_28 (by decide) ?_
      refine z_istore G dX10_comes_33 (Nat.le_of_ble_eq_true rfl) rfl ?_
      exact three k 3 3 hk rfl (by omega) (by simp [mostF, b24])
set_option maxHeartbeats 1000000 in
set_option maxRecDepth 20000 in
theorem k_X10_inserts {E : pmE} {d : Nat} {S : pmS} {I : pmI} {P : pmP} {R : Option Value → pmS → pmI → pmP → Prop} {a n q : Nat} {place page : Int32} (ho : AR S a 11 124) (hn : (I a 1).toInt = (n : Int)) (h5 : n < 5) (hq0 : place.toInt = (q : Int)) (hqn : q ≤ n) (h : R none S (va_up I a (insF (I a) n q place page)) P) : pmX E (d + 1) 0 0 yX10_inserts [rr E a, .int place, .int page] S I P R := by
  refine pm_of (by decide) cd_X10_inserts (by decide) (by decide) (Nat.le_of_ble_eq_true rfl) ?_
  intro C G hq
  have loop : ∀ (r c : Nat) (x : Int32), x.toInt = (c : Int) → q + r = c → c ≤ n → pmZ E C 4 [some (rr E a), some (.int place), some (.int page), some (.int x)] [] S (va_up I a (va_cpy (I a) (I a) (44 + 10 * c) (54 + 10 * c) (10 * (n - c)))) P 0 0 := by
    intro r
    induction r with
    | zero =>
      intro c x hx hr hc
      refine z_iload_n G dX10_inserts_4 rfl ?_
      refine z_iload_n G dX10_inserts_5 rfl ?_
      refine z_icmp_le G 35 dX10_inserts_6 (by decide) (fun b6 => ?_) (fun b6 => ?_)
      · refine z_aload_n G dX10_inserts_35 rfl ?_
        refine z_bipush G (v := 44) dX10_inserts_36 (by decide) ?_
        refine z_bipush G (v := 10) dX10_inserts_38 (by decide) ?_
        refine z_iload_n G dX10_inserts_40 rfl ?_
        refine z_imul G dX10_inserts_41 ?_
        refine z_iadd G dX10_inserts_42 ?_
        refine z_iconst G (v := 1) dX10_inserts_43 (by decide) ?_
        refine z_iload_n G dX10_inserts_44 rfl ?_
        refine z_S G lk_X10_130 dX10_inserts_45 [_, _, _, _] rfl rfl rfl (Nat.le_of_ble_eq_true rfl) ⟨Nat.le_refl _, Nat.le_refl _⟩ ?_
        refine k_X10_fresh ho (k := 44 + 10 * q) (by simp (disch := omega) only [iN_lit, iN_add, iN_sub, iN_mul, iN_an, iN_of hq0]; exact iN_ti2 (by omega) (by omega)) (by omega) ?_
        refine z_I (I' := va_up I a (freshF (va_cpy (I a) (I a) (44 + 10 * q) (54 + 10 * q) (10 * (n - q))) (44 + 10 * q) 1 page)) (by rw [va_up_up, va_up_self, show c = q by omega]) ?_
        refine z_aload_n G dX10_inserts_48 rfl ?_
        refine z_iconst G (v := 1) dX10_inserts_49 (by decide) ?_
        refine z_dup2 G dX10_inserts_50 rfl rfl ?_
        refine z_iald G (1) dX10_inserts_51 (by assumption) (rfl) (by omega) ?_
        refine z_iconst G (v := 1) dX10_inserts_52 (by decide) ?_
        refine z_iadd G dX10_inserts_53 ?_
        refine z_top (y := I a 1 + 1) (by rw [va_up_self, freshF_off (by omega), cpy_off (by omega)]) ?_
        refine z_iast G (1) dX10_inserts_54 (by assumption) (rfl) (by omega) ?_
        refine z_aload_n G dX10_inserts_55 rfl ?_
        refine z_iconst G (v := 2) dX10_inserts_56 (by decide) ?_
        refine z_iload_n G dX10_inserts_57 rfl ?_
        refine z_iast G (2) dX10_inserts_58 (by assumption) (rfl) (by omega) ?_
        exact z_vret G hq dX10_inserts_59 (by simpa only [insF, va_up_self, va_up_up] using h)
      · exact absurd (by simp only [ti_le, hx, hq0]; omega) b6
    | succ r ih =>
      intro c x hx hr hc
      obtain ⟨c, rfl⟩ : ∃ e, c = e + 1 := ⟨c - 1, by omega⟩
      refine z_iload_n G dX10_inserts_4 rfl ?_
      refine z_iload_n G dX10_inserts_5 rfl ?_
      refine z_icmp_le G 35 dX10_inserts_6 (by decide) (fun b6 => ?_) (fun b6 => ?_)
      · exact absurd b6 (by simp only [ti_le, hx, hq0]; omega)
      · refine z_aload_n G dX10_inserts_9 rfl ?_
        refine z_bipush G (v := 44) dX10_inserts_10 (by decide) ?_
        refine z_bipush G (v := 10) dX10_inserts_12 (by decide) ?_
        refine z_iload_n G dX10_inserts_14 rfl ?_
        refine z_iconst G (v := 1) dX10_inserts_15 (by decide) ?_
        refine z_isub G dX10_inserts_16 ?_
        refine z_imul G dX10_inserts_17 ?_
        refine z_iadd G dX10_inserts_18 ?_
        refine z_bipush G (v := 44) dX10_inserts_19 (by decide) ?_
        refine z_bipush G (v := 10) dX10_inserts_21 (by decide) ?_
        refine z_iload_n G dX10_inserts_23 rfl ?_
        refine z_imul G dX10_inserts_24 ?_
        refine z_iadd G dX10_inserts_25 ?_
        refine z_S G lk_X10_164 dX10_inserts_26 [_, _, _] rfl rfl rfl (Nat.le_of_ble_eq_true rfl) ⟨Nat.le_refl _, Nat.le_refl _⟩ ?_
        refine k_X10_moves ho (f := 44 + 10 * c) (g := 44 + 10 * (c + 1)) (by simp (disch := omega) only [iN_lit, iN_add, iN_sub, iN_mul, iN_an, iN_of hx]; exact iN_ti2 (by omega) (by omega)) (by simp (disch := omega) only [iN_lit, iN_add, iN_sub, iN_mul, iN_an, iN_of hx]; exact iN_ti2 (by omega) (by omega)) (by omega) (by omega) (by omega) ?_
        refine z_iinc G (v := -1) dX10_inserts_29 (by decide) rfl rfl ?_
        refine z_goto G 4 dX10_inserts_32 (by decide) ?_
        refine z_eq rfl rfl rfl ?_ rfl (ih c _ (by simp (disch := omega) only [iN_lit, iN_add, iN_sub, iN_mul, iN_an, iN_of hx]; exact iN_ti2 (by omega) (by omega)) (by omega) (by omega))
        rw [va_up_up, va_up_self, ins_step (by omega)]
  refine z_aload_n G dX10_inserts_0 rfl ?_
  refine z_iconst G (v := 1) dX10_inserts_1 (by decide) ?_
  refine z_iald G (1) dX10_inserts_2 (by assumption) (rfl) (by omega) ?_
  refine z_istore_n G dX10_inserts_3 (Nat.le_of_ble_eq_true rfl) rfl ?_
  refine z_eq rfl rfl rfl ?_ rfl (loop (n - q) n _ hn (by omega) (Nat.le_refl _))
  rw [Nat.sub_self, Nat.mul_zero, cpy_0, va_up_id]
