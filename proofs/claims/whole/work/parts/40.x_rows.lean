set_option maxHeartbeats 1000000 in
set_option maxRecDepth 20000 in
theorem k_X6_make {E : pmE} {d : Nat} {S : pmS} {I : pmI} {P : pmP} {R : Option Value → pmS → pmI → pmP → Prop} {g : Nat} {lane n : Int32} (hG : RowG S P g) (h : ∀ I', Fr2 I I' g → I' g 1 = 1 → I' g 2 = lane → I' g 3 = n → (∀ i, i < 40 → I' (g + 1) i = 0) → R none S I' P) : pmX E d 0 0 yX6_make [rr E g, .int lane, .int n] S I P R := by
  refine pm_of (by decide) cd_X6_make (by decide) (by decide) (Nat.le_of_ble_eq_true rfl) ?_
  intro C G hq
  obtain ⟨g1, g2, g3⟩ := id hG
  have loop : ∀ (r k : Nat) (x : Int32) (J : pmI), x.toInt = (k : Int) → k + r = 40 → Fr2 I J g → J g 1 = 1 → J g 2 = lane → J g 3 = n → (∀ i, i < k → J (g + 1) i = 0) → pmZ E C 17 [some (rr E g), some (.int lane), some (.int n), some (.int x)] [] S J P 0 0 := by
    intro r
    induction r with
    | zero =>
      intro k x J hx hr f1 e1 e2 e3 e4
      obtain rfl : k = 40 := by omega
      refine z_iload_n G dX6_make_17 rfl ?_
      refine z_aload_n G dX6_make_18 rfl ?_
      refine z_getR G fl_X6_9 rfl dX6_make_19 (by assumption) (by assumption) ?_
      refine z_alen G 0 (v := 40) rfl (by decide) dX6_make_22 (by assumption) (by decide) ?_
      refine z_icmp_ge G 39 dX6_make_23 (by decide) (fun _ => ?_) (fun c => absurd c (fun z => z (by simp (disch := omega) only [iN_lit, iN_add, iN_sub, iN_mul, iN_an, iN_le, iN_lt, iN_eq, iN_of hx] <;> omega)))
      exact z_vret G hq dX6_make_39 (h J f1 e1 e2 e3 e4)
    | succ r ih =>
      intro k x J hx hr f1 e1 e2 e3 e4
      refine z_iload_n G dX6_make_17 rfl ?_
      refine z_aload_n G dX6_make_18 rfl ?_
      refine z_getR G fl_X6_9 rfl dX6_make_19 (by assumption) (by assumption) ?_
      refine z_alen G 0 (v := 40) rfl (by decide) dX6_make_22 (by assumption) (by decide) ?_
      refine z_icmp_ge G 39 dX6_make_23 (by decide) (fun c => absurd c (by simp (disch := omega) only [iN_lit, iN_add, iN_sub, iN_mul, iN_an, iN_le, iN_lt, iN_eq, iN_of hx]; omega)) (fun _ => ?_)
      refine z_aload_n G dX6_make_26 rfl ?_
      refine z_getR G fl_X6_9 rfl dX6_make_27 (by assumption) (by assumption) ?_
      refine z_iload_n G dX6_make_30 rfl ?_
      refine z_iconst G (v := 0) dX6_make_31 (by decide) ?_
      refine z_iast G (k) dX6_make_32 (by assumption) (hx) (by omega) ?_
      refine z_iinc G (v := 1) dX6_make_33 (by decide) rfl rfl ?_
      refine z_goto G 17 dX6_make_36 (by decide) ?_
      refine ih (k + 1) _ _ (by simp (disch := omega) only [iN_lit, iN_add, iN_sub, iN_mul, iN_an, iN_of hx]; exact iN_ti2 (by omega) (by omega)) (by omega) (fun q q1 q2 => by rw [va_ne' q2]; exact f1 q q1 q2) (by rw [va_ne' (by omega)]; exact e1) (by rw [va_ne' (by omega)]; exact e2) (by rw [va_ne' (by omega)]; exact e3) (fun i hi => ?_)
      rw [va_up_self]
      by_cases hik : i = k
      · rw [va_at' hik]
      · rw [va_ne' hik]; exact e4 i (by omega)
  refine z_aload_n G dX6_make_0 rfl ?_
  refine z_iconst G (v := 1) dX6_make_1 (by decide) ?_
  refine z_putI G fl_X6_15 ft_6_1 rfl rfl rfl dX6_make_2 (by assumption) ?_
  refine z_aload_n G dX6_make_5 rfl ?_
  refine z_iload_n G dX6_make_6 rfl ?_
  refine z_putI G fl_X6_19 ft_6_2 rfl rfl rfl dX6_make_7 (by assumption) ?_
  refine z_aload_n G dX6_make_10 rfl ?_
  refine z_iload_n G dX6_make_11 rfl ?_
  refine z_putI G fl_X6_23 ft_6_3 rfl rfl rfl dX6_make_12 (by assumption) ?_
  refine z_iconst G (v := 0) dX6_make_15 (by decide) ?_
  refine z_istore_n G dX6_make_16 (Nat.le_of_ble_eq_true rfl) rfl ?_
  exact loop 40 0 0 _ rfl (by omega) (fun k k1 k2 => by simp (disch := omega) only [va_at', va_ne', va_up_up]) (by simp (disch := omega) only [va_at', va_ne', va_up_up]) (by simp (disch := omega) only [va_at', va_ne', va_up_up]) (by simp (disch := omega) only [va_at', va_ne', va_up_up]) (fun p hp => absurd hp (by omega))
set_option maxHeartbeats 1000000 in
set_option maxRecDepth 20000 in
theorem k_X6_hasPlaces {E : pmE} {d : Nat} {S : pmS} {I : pmI} {P : pmP} {R : Option Value → pmS → pmI → pmP → Prop} {g z : Nat} {i n : Int32} (ho : OB S g 6) (hz : (I g 3).toInt = (z : Int)) (hz40 : z ≤ 40) (h1 : PL i n z → R (some (.int 1)) S I P) (h0 : ¬ PL i n z → R (some (.int 0)) S I P) : pmX E d 0 0 yX6_hasPlaces [rr E g, .int i, .int n] S I P R := by
  refine pm_of (by decide) cd_X6_hasPlaces (by decide) (by decide) (Nat.le_of_ble_eq_true rfl) ?_
  intro C G hq
  refine z_iload_n G dX6_hasPlaces_0 rfl ?_
  refine z_if_lt G 30 dX6_hasPlaces_1 (by decide) (fun b1 => ?_) (fun b1 => ?_)
  · refine z_iconst G (v := 0) dX6_hasPlaces_30 (by decide) ?_
    exact z_zret G hq dX6_hasPlaces_31 rfl (h0 (fun ⟨q1, q2, q3⟩ => by simp only [ti_lt, ti_le, Int32.reduceToInt, ti_sub, hz] at *; omega))
  · refine z_iload_n G dX6_hasPlaces_4 rfl ?_
    refine z_if_lt G 30 dX6_hasPlaces_5 (by decide) (fun b5 => ?_) (fun b5 => ?_)
    · refine z_iconst G (v := 0) dX6_hasPlaces_30 (by decide) ?_
      exact z_zret G hq dX6_hasPlaces_31 rfl (h0 (fun ⟨q1, q2, q3⟩ => by simp only [ti_lt, ti_le, Int32.reduceToInt, ti_sub, hz] at *; omega))
    · refine z_iload_n G dX6_hasPlaces_8 rfl ?_
      refine z_aload_n G dX6_hasPlaces_9 rfl ?_
      refine z_getI G fl_X6_23 rfl dX6_hasPlaces_10 (by assumption) ?_
      refine z_icmp_gt G 30 dX6_hasPlaces_13 (by decide) (fun b13 => ?_) (fun b13 => ?_)
      · refine z_iconst G (v := 0) dX6_hasPlaces_30 (by decide) ?_
        exact z_zret G hq dX6_hasPlaces_31 rfl (h0 (fun ⟨q1, q2, q3⟩ => by simp only [ti_lt, ti_le, Int32.reduceToInt, ti_sub, hz] at *; omega))
      · refine z_iload_n G dX6_hasPlaces_16 rfl ?_
        refine z_aload_n G dX6_hasPlaces_17 rfl ?_
        refine z_getI G fl_X6_23 rfl dX6_hasPlaces_18 (by assumption) ?_
        refine z_iload_n G dX6_hasPlaces_21 rfl ?_
        refine z_isub G dX6_hasPlaces_22 ?_
        refine z_icmp_gt G 30 dX6_hasPlaces_23 (by decide) (fun b23 => ?_) (fun b23 => ?_)
        · refine z_iconst G (v := 0) dX6_hasPlaces_30 (by decide) ?_
          exact z_zret G hq dX6_hasPlaces_31 rfl (h0 (fun ⟨q1, q2, q3⟩ => by simp only [ti_lt, ti_le, Int32.reduceToInt, ti_sub, hz] at *; omega))
        · refine z_iconst G (v := 1) dX6_hasPlaces_26 (by decide) ?_
          refine z_goto G 31 dX6_hasPlaces_27 (by decide) ?_
          exact z_zret G hq dX6_hasPlaces_31 rfl (h1 ⟨by simp only [ti_lt, ti_le, Int32.reduceToInt, ti_sub, hz] at *; omega, by simp only [ti_lt, ti_le, Int32.reduceToInt, ti_sub, hz] at *; omega, by simp only [ti_lt, ti_le, Int32.reduceToInt, ti_sub, hz] at *; omega⟩)
set_option maxHeartbeats 1000000 in
set_option maxRecDepth 20000 in
theorem k_X6_put {E : pmE} {d : Nat} {S : pmS} {I : pmI} {P : pmP} {R : Option Value → pmS → pmI → pmP → Prop} {g j : Nat} {i v : Int32} (hG : RowG S P g) (hi : i.toInt = (j : Int)) (hj : j < 40) (h : R (some (.int (cutF (I g 2) v))) S (va_up I (g + 1) (va_up (I (g + 1)) j (cutF (I g 2) v))) P) : pmX E d 0 0 yX6_put [rr E g, .int i, .int v] S I P R := by
  refine pm_of (by decide) cd_X6_put (by decide) (by decide) (Nat.le_of_ble_eq_true rfl) ?_
  intro C G hq
  obtain ⟨g1, g2, g3⟩ := id hG
  refine z_aload_n G dX6_put_0 rfl ?_
  refine z_getI G fl_X6_19 rfl dX6_put_1 (by assumption) ?_
  refine z_if_ne G 12 dX6_put_4 (by decide) (fun b4 => ?_) (fun b4 => ?_)
  · refine z_aload_n G dX6_put_12 rfl ?_
    refine z_getI G fl_X6_19 rfl dX6_put_13 (by assumption) ?_
    refine z_iconst G (v := 1) dX6_put_16 (by decide) ?_
    refine z_icmp_ne G 25 dX6_put_17 (by decide) (fun b17 => ?_) (fun b17 => ?_)
    · refine z_iload_n G dX6_put_25 rfl ?_
      refine z_top (y := cutF (I g 2) v) (by unfold cutF; rw [if_neg b4, if_neg b17]) ?_
      refine z_istore_n G dX6_put_26 (Nat.le_of_ble_eq_true rfl) rfl ?_
      refine z_iload_n G dX6_put_27 rfl ?_
      refine z_if_lt G 47 dX6_put_28 (by decide) (fun c => absurd c (by simp only [ti_lt, ti_le, Int32.reduceToInt, hi]; omega)) (fun _ => ?_)
      refine z_iload_n G dX6_put_31 rfl ?_
      refine z_aload_n G dX6_put_32 rfl ?_
      refine z_getR G fl_X6_9 rfl dX6_put_33 (by assumption) (by assumption) ?_
      refine z_alen G 0 (v := 40) rfl (by decide) dX6_put_36 (by assumption) (by decide) ?_
      refine z_icmp_ge G 47 dX6_put_37 (by decide) (fun c => absurd c (by simp only [ti_lt, ti_le, Int32.reduceToInt, hi]; omega)) (fun _ => ?_)
      refine z_aload_n G dX6_put_40 rfl ?_
      refine z_getR G fl_X6_9 rfl dX6_put_41 (by assumption) (by assumption) ?_
      refine z_iload_n G dX6_put_44 rfl ?_
      refine z_iload_n G dX6_put_45 rfl ?_
      refine z_iast G (j) dX6_put_46 (by assumption) (hi) (by omega) ?_
      refine z_iload_n G dX6_put_47 rfl ?_
      exact z_iret G hq dX6_put_48 (h)
    · refine z_iload_n G dX6_put_20 rfl ?_
      refine z_i2s G dX6_put_21 ?_
      refine z_goto G 26 dX6_put_22 (by decide) ?_
      refine z_top (y := cutF (I g 2) v) (by unfold cutF; rw [if_neg b4, if_pos b17]) ?_
      refine z_istore_n G dX6_put_26 (Nat.le_of_ble_eq_true rfl) rfl ?_
      refine z_iload_n G dX6_put_27 rfl ?_
      refine z_if_lt G 47 dX6_put_28 (by decide) (fun c => absurd c (by simp only [ti_lt, ti_le, Int32.reduceToInt, hi]; omega)) (fun _ => ?_)
      refine z_iload_n G dX6_put_31 rfl ?_
      refine z_aload_n G dX6_put_32 rfl ?_
      refine z_getR G fl_X6_9 rfl dX6_put_33 (by assumption) (by assumption) ?_
      refine z_alen G 0 (v := 40) rfl (by decide) dX6_put_36 (by assumption) (by decide) ?_
      refine z_icmp_ge G 47 dX6_put_37 (by decide) (fun c => absurd c (by simp only [ti_lt, ti_le, Int32.reduceToInt, hi]; omega)) (fun _ => ?_)
      refine z_aload_n G dX6_put_40 rfl ?_
      refine z_getR G fl_X6_9 rfl dX6_put_41 (by assumption) (by assumption) ?_
      refine z_iload_n G dX6_put_44 rfl ?_
      refine z_iload_n G dX6_put_45 rfl ?_
      refine z_iast G (j) dX6_put_46 (by assumption) (hi) (by omega) ?_
      refine z_iload_n G dX6_put_47 rfl ?_
      exact z_iret G hq dX6_put_48 (h)
  · refine z_iload_n G dX6_put_7 rfl ?_
    refine z_i2b G dX6_put_8 ?_
    refine z_goto G 26 dX6_put_9 (by decide) ?_
    refine z_top (y := cutF (I g 2) v) (by unfold cutF; rw [if_pos b4]) ?_
    refine z_istore_n G dX6_put_26 (Nat.le_of_ble_eq_true rfl) rfl ?_
    refine z_iload_n G dX6_put_27 rfl ?_
    refine z_if_lt G 47 dX6_put_28 (by decide) (fun c => absurd c (by simp only [ti_lt, ti_le, Int32.reduceToInt, hi]; omega)) (fun _ => ?_)
    refine z_iload_n G dX6_put_31 rfl ?_
    refine z_aload_n G dX6_put_32 rfl ?_
    refine z_getR G fl_X6_9 rfl dX6_put_33 (by assumption) (by assumption) ?_
    refine z_alen G 0 (v := 40) rfl (by decide) dX6_put_36 (by assumption) (by decide) ?_
    refine z_icmp_ge G 47 dX6_put_37 (by decide) (fun c => absurd c (by simp only [ti_lt, ti_le, Int32.reduceToInt, hi]; omega)) (fun _ => ?_)
    refine z_aload_n G dX6_put_40 rfl ?_
    refine z_getR G fl_X6_9 rfl dX6_put_41 (by assumption) (by assumption) ?_
    refine z_iload_n G dX6_put_44 rfl ?_
    refine z_iload_n G dX6_put_45 rfl ?_
    refine z_iast G (j) dX6_put_46 (by assumption) (hi) (by omega) ?_
    refine z_iload_n G dX6_put_47 rfl ?_
    exact z_iret G hq dX6_put_48 (h)
set_option maxHeartbeats 1000000 in
set_option maxRecDepth 20000 in
theorem k_X9_row {E : pmE} {d : Nat} {S : pmS} {I : pmI} {P : pmP} {R : Option Value → pmS → pmI → pmP → Prop} (hX : XG S P) {r lane n : Int32} (hb : ¬ RowOK r lane n → R (some (.int (-1000001))) S I P) (hn : RowOK r lane n → n.toInt < 0 → R (some (.int (-1000010 - 4))) S (va_up I 0 (va_up (I 0) 8 4)) P) (hok : ∀ k l z : Nat, r.toInt = (k : Int) → k < 8 → lane.toInt = (l : Int) → l ≤ 2 → n.toInt = (z : Int) → z ≤ 40 → ∀ I', Fr2 (va_up I 0 (va_up (I 0) 8 0)) I' (596 + 2 * k) → I' (596 + 2 * k) 1 = 1 → I' (596 + 2 * k) 2 = lane → I' (596 + 2 * k) 3 = n → (∀ i, i < 40 → I' (597 + 2 * k) i = 0) → R (some (.int n)) S I' P) : pmX E (d + 1) 0 0 yX9_row [rr E 0, .int r, .int lane, .int n] S I P R := by
  refine pm_of (by decide) cd_X9_row (by decide) (by decide) (Nat.le_of_ble_eq_true rfl) ?_
  intro C G hq
  obtain ⟨⟨a0, a1, a2, a3, a4, a5, a6, a7, a8⟩, hRG, hRdG, hWG, hDG, ⟨z1, z2, z3, z4⟩, hIG, hFG, hAG⟩ := id hX
  obtain ⟨rg1, rg2⟩ := id hRG
  have RGk : ∀ k, k < 8 → RowG S P (596 + 2 * k) := fun k hk => by obtain ⟨q1, q2, q3, q4⟩ := rg2 k hk; exact ⟨q2, by rw [show 596 + 2 * k + 1 = 597 + 2 * k by omega]; exact q3, by rw [show 596 + 2 * k + 1 = 597 + 2 * k by omega]; exact q4⟩
  refine z_iload_n G dX9_row_0 rfl ?_
  refine z_S G lk_X9_69 dX9_row_1 [_] rfl rfl rfl (Nat.le_of_ble_eq_true rfl) ⟨Nat.le_refl _, Nat.le_refl _⟩ ?_
  refine k_X9_isRow ?_ ?_
  · intro k hk hk8
    refine z_if_eq G 22 dX9_row_4 (by decide) (fun c => absurd c (by decide)) (fun _ => ?_)
    refine z_iload_n G dX9_row_7 rfl ?_
    refine z_if_lt G 22 dX9_row_8 (by decide) (fun b8 => ?_) (fun b8 => ?_)
    · refine z_ldc G ct_X9_73 dX9_row_22 ?_
      exact z_iret G hq dX9_row_24 (hb (fun ⟨_, ⟨l, q1, q2⟩, _⟩ => by simp only [ti_lt, ti_le, Int32.reduceToInt] at *; omega))
    · refine z_iload_n G dX9_row_11 rfl ?_
      refine z_iconst G (v := 2) dX9_row_12 (by decide) ?_
      refine z_icmp_gt G 22 dX9_row_13 (by decide) (fun b13 => ?_) (fun b13 => ?_)
      · refine z_ldc G ct_X9_73 dX9_row_22 ?_
        exact z_iret G hq dX9_row_24 (hb (fun ⟨_, ⟨l, q1, q2⟩, _⟩ => by simp only [ti_lt, ti_le, Int32.reduceToInt] at *; omega))
      · refine z_iload_n G dX9_row_16 rfl ?_
        refine z_bipush G (v := 40) dX9_row_17 (by decide) ?_
        refine z_icmp_le G 25 dX9_row_19 (by decide) (fun b19 => ?_) (fun b19 => ?_)
        · obtain ⟨l, hl1, hl2⟩ : ∃ l : Nat, lane.toInt = (l : Int) ∧ l ≤ 2 := ⟨lane.toInt.toNat, by simp only [ti_lt, ti_le, Int32.reduceToInt] at *; omega, by simp only [ti_lt, ti_le, Int32.reduceToInt] at *; omega⟩
          have hn40 : n.toInt ≤ 40 := by simp only [ti_lt, ti_le, Int32.reduceToInt] at *; omega
          refine z_iload_n G dX9_row_25 rfl ?_
          refine z_if_ge G 35 dX9_row_26 (by decide) (fun b26 => ?_) (fun b26 => ?_)
          · obtain ⟨z, hz1, hz2⟩ : ∃ z : Nat, n.toInt = (z : Int) ∧ z ≤ 40 := ⟨n.toInt.toNat, by simp only [ti_lt, ti_le, Int32.reduceToInt] at *; omega, by simp only [ti_lt, ti_le, Int32.reduceToInt] at *; omega⟩
            refine z_aload_n G dX9_row_35 rfl ?_
            refine z_iconst G (v := 0) dX9_row_36 (by decide) ?_
            refine z_putI G fl_X9_63 ft_9_8 rfl rfl rfl dX9_row_37 (by assumption) ?_
            refine z_aload_n G dX9_row_40 rfl ?_
            refine z_getR G fl_X9_11 rfl dX9_row_41 (by assumption) (by assumption) ?_
            refine z_iload_n G dX9_row_44 rfl ?_
            refine z_aald G 4 (k) rfl (by decide) dX9_row_45 rg1 (hk) (by omega) (rg2 k (by omega)).1 ?_
            refine z_iload_n G dX9_row_46 rfl ?_
            refine z_iload_n G dX9_row_47 rfl ?_
            refine z_V G lk_X9_78 dX9_row_48 [_, _] rfl rfl rfl (Nat.le_of_ble_eq_true rfl) ⟨Nat.le_refl _, Nat.le_refl _⟩ (RGk k hk8).1 ?_
            refine k_X6_make (RGk k hk8) (fun I' f1 f2 f3 f4 f5 => ?_)
            refine z_iload_n G dX9_row_51 rfl ?_
            exact z_iret G hq dX9_row_52 (hok k l z hk hk8 hl1 hl2 hz1 hz2 I' f1 f2 f3 f4 (fun i hi => by rw [show 597 + 2 * k = 596 + 2 * k + 1 by omega]; exact f5 i hi))
          · refine z_aload_n G dX9_row_29 rfl ?_
            refine z_iconst G (v := 4) dX9_row_30 (by decide) ?_
            refine z_V G lk_X9_74 dX9_row_31 [_] rfl rfl rfl (Nat.le_of_ble_eq_true rfl) ⟨Nat.le_refl _, Nat.le_refl _⟩ (by assumption) ?_
            refine k_X9_found hX ?_
            exact z_iret G hq dX9_row_34 (hn ⟨⟨k, hk, hk8⟩, ⟨l, hl1, hl2⟩, hn40⟩ (by simp only [ti_lt, ti_le, Int32.reduceToInt] at *; omega))
        · refine z_ldc G ct_X9_73 dX9_row_22 ?_
          exact z_iret G hq dX9_row_24 (hb (fun ⟨_, _, q3⟩ => by simp only [ti_lt, ti_le, Int32.reduceToInt] at *; omega))
  · intro hno
    refine z_if_eq G 22 dX9_row_4 (by decide) (fun _ => ?_) (fun c => absurd c (by decide))
    refine z_ldc G ct_X9_73 dX9_row_22 ?_
    exact z_iret G hq dX9_row_24 (hb (fun q => hno q.1))
set_option maxHeartbeats 1000000 in
set_option maxRecDepth 20000 in
theorem k_X9_set {E : pmE} {d : Nat} {S : pmS} {I : pmI} {P : pmP} {R : Option Value → pmS → pmI → pmP → Prop} (hX : XG S P) (hth : ∀ k, k < 8 → I (596 + 2 * k) 1 = 0 ∨ I (596 + 2 * k) 1 = 1) (hsz : ∀ k, k < 8 → ∃ z : Nat, (I (596 + 2 * k) 3).toInt = (z : Int) ∧ z ≤ 40) {r i v : Int32} (hb : (¬ ∃ k : Nat, r.toInt = (k : Int) ∧ k < 8) → R (some (.int (-1000001))) S I P) (hm : ∀ k : Nat, r.toInt = (k : Int) → k < 8 → I (596 + 2 * k) 1 = 0 → R (some (.int (-1000010 - 1))) S (va_up I 0 (va_up (I 0) 8 1)) P) (hp : ∀ k z : Nat, r.toInt = (k : Int) → k < 8 → I (596 + 2 * k) 1 = 1 → (I (596 + 2 * k) 3).toInt = (z : Int) → z ≤ 40 → ¬ PL i 1 z → R (some (.int (-1000010 - 2))) S (va_up I 0 (va_up (I 0) 8 2)) P) (hok : ∀ k z j : Nat, r.toInt = (k : Int) → k < 8 → I (596 + 2 * k) 1 = 1 → (I (596 + 2 * k) 3).toInt = (z : Int) → z ≤ 40 → i.toInt = (j : Int) → j < z → R (some (.int (cutF (I (596 + 2 * k) 2) v))) S (va_up (va_up I 0 (va_up (I 0) 8 0)) (597 + 2 * k) (va_up (I (597 + 2 * k)) j (cutF (I (596 + 2 * k) 2) v))) P) : pmX E (d + 1) 0 0 yX9_set [rr E 0, .int r, .int i, .int v] S I P R := by
  refine pm_of (by decide) cd_X9_set (by decide) (by decide) (Nat.le_of_ble_eq_true rfl) ?_
  intro C G hq
  obtain ⟨⟨a0, a1, a2, a3, a4, a5, a6, a7, a8⟩, hRG, hRdG, hWG, hDG, ⟨z1, z2, z3, z4⟩, hIG, hFG, hAG⟩ := id hX
  obtain ⟨rg1, rg2⟩ := id hRG
  have RGk : ∀ k, k < 8 → RowG S P (596 + 2 * k) := fun k hk => by obtain ⟨q1, q2, q3, q4⟩ := rg2 k hk; exact ⟨q2, by rw [show 596 + 2 * k + 1 = 597 + 2 * k by omega]; exact q3, by rw [show 596 + 2 * k + 1 = 597 + 2 * k by omega]; exact q4⟩
  refine z_iload_n G dX9_set_0 rfl ?_
  refine z_S G lk_X9_69 dX9_set_1 [_] rfl rfl rfl (Nat.le_of_ble_eq_true rfl) ⟨Nat.le_refl _, Nat.le_refl _⟩ ?_
  refine k_X9_isRow ?_ ?_
  · intro k hk hk8
    refine z_if_ne G 10 dX9_set_4 (by decide) (fun _ => ?_) (fun c => absurd c (by decide))
    refine z_aload_n G dX9_set_10 rfl ?_
    refine z_getR G fl_X9_11 rfl dX9_set_11 (by assumption) (by assumption) ?_
    refine z_iload_n G dX9_set_14 rfl ?_
    refine z_aald G 4 (k) rfl (by decide) dX9_set_15 rg1 (hk) (by omega) (rg2 k (by omega)).1 ?_
    refine z_astore G dX9_set_16 (Nat.le_of_ble_eq_true rfl) rfl ?_
    refine z_aload G dX9_set_18 rfl ?_
    refine z_getI G fl_X9_82 rfl dX9_set_20 (RGk k hk8).1 ?_
    refine z_if_ne G 32 dX9_set_23 (by decide) (fun b23 => ?_) (fun b23 => ?_)
    · have ht : I (596 + 2 * k) 1 = 1 := (hth k hk8).resolve_left b23
      obtain ⟨z, hz1, hz2⟩ := hsz k hk8
      refine z_aload G dX9_set_32 rfl ?_
      refine z_iload_n G dX9_set_34 rfl ?_
      refine z_iconst G (v := 1) dX9_set_35 (by decide) ?_
      refine z_V G lk_X9_86 dX9_set_36 [_, _] rfl rfl rfl (Nat.le_of_ble_eq_true rfl) ⟨Nat.le_refl _, Nat.le_refl _⟩ (RGk k hk8).1 ?_
      refine k_X6_hasPlaces (RGk k hk8).1 hz1 hz2 ?_ ?_
      · intro hpl
        refine z_if_ne G 48 dX9_set_39 (by decide) (fun _ => ?_) (fun c => absurd c (by decide))
        obtain ⟨j, hj1, hj2⟩ : ∃ j : Nat, i.toInt = (j : Int) ∧ j < z := ⟨i.toInt.toNat, by have := hpl.1; omega, by have := hpl.1; have := hpl.2.2; simp only [Int32.reduceToInt] at this; omega⟩
        refine z_aload_n G dX9_set_48 rfl ?_
        refine z_iconst G (v := 0) dX9_set_49 (by decide) ?_
        refine z_putI G fl_X9_63 ft_9_8 rfl rfl rfl dX9_set_50 (by assumption) ?_
        refine z_aload G dX9_set_53 rfl ?_
        refine z_iload_n G dX9_set_55 rfl ?_
        refine z_iload_n G dX9_set_56 rfl ?_
        refine z_V G lk_X9_90 dX9_set_57 [_, _] rfl rfl rfl (Nat.le_of_ble_eq_true rfl) ⟨Nat.le_refl _, Nat.le_refl _⟩ (RGk k hk8).1 ?_
        refine k_X6_put (RGk k hk8) hj1 (by omega) ?_
        exact z_iret G hq dX9_set_60 (by have := hok k z j hk hk8 ht hz1 hz2 hj1 hj2; simp (disch := omega) only [va_ne', show 596 + 2 * k + 1 = 597 + 2 * k by omega] at this ⊢; exact this)
      · intro hpl
        refine z_if_ne G 48 dX9_set_39 (by decide) (fun c => absurd c (by decide)) (fun _ => ?_)
        refine z_aload_n G dX9_set_42 rfl ?_
        refine z_iconst G (v := 2) dX9_set_43 (by decide) ?_
        refine z_V G lk_X9_74 dX9_set_44 [_] rfl rfl rfl (Nat.le_of_ble_eq_true rfl) ⟨Nat.le_refl _, Nat.le_refl _⟩ (by assumption) ?_
        refine k_X9_found hX ?_
        exact z_iret G hq dX9_set_47 (hp k z hk hk8 ht hz1 hz2 hpl)
    · refine z_aload_n G dX9_set_26 rfl ?_
      refine z_iconst G (v := 1) dX9_set_27 (by decide) ?_
      refine z_V G lk_X9_74 dX9_set_28 [_] rfl rfl rfl (Nat.le_of_ble_eq_true rfl) ⟨Nat.le_refl _, Nat.le_refl _⟩ (by assumption) ?_
      refine k_X9_found hX ?_
      exact z_iret G hq dX9_set_31 (hm k hk hk8 b23)
  · intro hno
    refine z_if_ne G 10 dX9_set_4 (by decide) (fun c => absurd c (by decide)) (fun _ => ?_)
    refine z_ldc G ct_X9_73 dX9_set_7 ?_
    exact z_iret G hq dX9_set_9 (hb hno)
set_option maxHeartbeats 1000000 in
set_option maxRecDepth 20000 in
theorem k_X9_drop {E : pmE} {d : Nat} {S : pmS} {I : pmI} {P : pmP} {R : Option Value → pmS → pmI → pmP → Prop} (hX : XG S P) {r : Int32} (hb : (¬ ∃ k : Nat, r.toInt = (k : Int) ∧ k < 8) → R (some (.int (-1000001))) S I P) (hm : ∀ k : Nat, r.toInt = (k : Int) → k < 8 → I (596 + 2 * k) 1 = 0 → R (some (.int (-1000010 - 1))) S (va_up I 0 (va_up (I 0) 8 1)) P) (hok : ∀ k : Nat, r.toInt = (k : Int) → k < 8 → ¬ I (596 + 2 * k) 1 = 0 → R (some (.int (I (596 + 2 * k) 3))) S (va_up (va_up I 0 (va_up (I 0) 8 0)) (596 + 2 * k) (va_up (I (596 + 2 * k)) 1 0)) P) : pmX E (d + 1) 0 0 yX9_drop [rr E 0, .int r] S I P R := by
  refine pm_of (by decide) cd_X9_drop (by decide) (by decide) (Nat.le_of_ble_eq_true rfl) ?_
  intro C G hq
  obtain ⟨⟨a0, a1, a2, a3, a4, a5, a6, a7, a8⟩, hRG, hRdG, hWG, hDG, ⟨z1, z2, z3, z4⟩, hIG, hFG, hAG⟩ := id hX
  obtain ⟨rg1, rg2⟩ := id hRG
  have RGk : ∀ k, k < 8 → RowG S P (596 + 2 * k) := fun k hk => by obtain ⟨q1, q2, q3, q4⟩ := rg2 k hk; exact ⟨q2, by rw [show 596 + 2 * k + 1 = 597 + 2 * k by omega]; exact q3, by rw [show 596 + 2 * k + 1 = 597 + 2 * k by omega]; exact q4⟩
  refine z_iload_n G dX9_drop_0 rfl ?_
  refine z_S G lk_X9_69 dX9_drop_1 [_] rfl rfl rfl (Nat.le_of_ble_eq_true rfl) ⟨Nat.le_refl _, Nat.le_refl _⟩ ?_
  refine k_X9_isRow ?_ ?_
  · intro k hk hk8
    refine z_if_ne G 10 dX9_drop_4 (by decide) (fun _ => ?_) (fun c => absurd c (by decide))
    refine z_aload_n G dX9_drop_10 rfl ?_
    refine z_getR G fl_X9_11 rfl dX9_drop_11 (by assumption) (by assumption) ?_
    refine z_iload_n G dX9_drop_14 rfl ?_
    refine z_aald G 4 (k) rfl (by decide) dX9_drop_15 rg1 (hk) (by omega) (rg2 k (by omega)).1 ?_
    refine z_getI G fl_X9_82 rfl dX9_drop_16 (RGk k hk8).1 ?_
    refine z_if_ne G 28 dX9_drop_19 (by decide) (fun b19 => ?_) (fun b19 => ?_)
    · refine z_aload_n G dX9_drop_28 rfl ?_
      refine z_iconst G (v := 0) dX9_drop_29 (by decide) ?_
      refine z_putI G fl_X9_63 ft_9_8 rfl rfl rfl dX9_drop_30 (by assumption) ?_
      refine z_aload_n G dX9_drop_33 rfl ?_
      refine z_getR G fl_X9_11 rfl dX9_drop_34 (by assumption) (by assumption) ?_
      refine z_iload_n G dX9_drop_37 rfl ?_
      refine z_aald G 4 (k) rfl (by decide) dX9_drop_38 rg1 (hk) (by omega) (rg2 k (by omega)).1 ?_
      refine z_iconst G (v := 0) dX9_drop_39 (by decide) ?_
      refine z_putI G fl_X9_82 ft_6_1 rfl rfl rfl dX9_drop_40 (RGk k hk8).1 ?_
      try simp (disch := omega) only [va_at', va_ne', va_up_up]
      refine z_aload_n G dX9_drop_43 rfl ?_
      refine z_getR G fl_X9_11 rfl dX9_drop_44 (by assumption) (by assumption) ?_
      refine z_iload_n G dX9_drop_47 rfl ?_
      refine z_aald G 4 (k) rfl (by decide) dX9_drop_48 rg1 (hk) (by omega) (rg2 k (by omega)).1 ?_
      refine z_getI G fl_X9_107 rfl dX9_drop_49 (RGk k hk8).1 ?_
      try simp (disch := omega) only [va_at', va_ne', va_up_up]
      exact z_iret G hq dX9_drop_52 (hok k hk hk8 b19)
    · refine z_aload_n G dX9_drop_22 rfl ?_
      refine z_iconst G (v := 1) dX9_drop_23 (by decide) ?_
      refine z_V G lk_X9_74 dX9_drop_24 [_] rfl rfl rfl (Nat.le_of_ble_eq_true rfl) ⟨Nat.le_refl _, Nat.le_refl _⟩ (by assumption) ?_
      refine k_X9_found hX ?_
      exact z_iret G hq dX9_drop_27 (hm k hk hk8 b19)
  · intro hno
    refine z_if_ne G 10 dX9_drop_4 (by decide) (fun c => absurd c (by decide)) (fun _ => ?_)
    refine z_ldc G ct_X9_73 dX9_drop_7 ?_
    exact z_iret G hq dX9_drop_9 (hb hno)
set_option maxHeartbeats 1000000 in
set_option maxRecDepth 20000 in
theorem k_X9_status {E : pmE} {d : Nat} {S : pmS} {I : pmI} {P : pmP} {R : Option Value → pmS → pmI → pmP → Prop} (hX : XG S P) (h : R (some (.int (I 0 8))) S I P) : pmX E d 0 0 yX9_status [rr E 0] S I P R := by
  refine pm_of (by decide) cd_X9_status (by decide) (by decide) (Nat.le_of_ble_eq_true rfl) ?_
  intro C G hq
  obtain ⟨⟨a0, a1, a2, a3, a4, a5, a6, a7, a8⟩, hRG, hRdG, hWG, hDG, ⟨z1, z2, z3, z4⟩, hIG, hFG, hAG⟩ := id hX
  refine z_aload_n G dX9_status_0 rfl ?_
  refine z_getI G fl_X9_63 rfl dX9_status_1 (by assumption) ?_
  exact z_iret G hq dX9_status_4 (h)
