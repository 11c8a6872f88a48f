set_option maxHeartbeats 1000000 in
set_option maxRecDepth 20000 in
theorem k_X10_closes {E : pmE} {d : Nat} {S : pmS} {I : pmI} {P : pmP} {R : Option Value → pmS → pmI → pmP → Prop} {a T t c : Nat} (ho : AR S a 11 124) (hT : (I a 1).toInt = (T : Int)) (hT5 : T ≤ 5) (hT2 : 2 ≤ T) (ht : (I a 2).toInt = (t : Int)) (htT : t < T) (hc : (I a 3).toInt = (c : Int)) (hc3 : c ≤ 3) (h : R none S (va_up I a (closesF (I a) T t c)) P) : pmX E (d + 1) 0 0 yX10_closes [rr E a] S I P R := by
  refine pm_of (by decide) cd_X10_closes (by decide) (by decide) (Nat.le_of_ble_eq_true rfl) ?_
  intro C G hq
  have tail : ∀ u : Nat → Int32, keepF (I a) t c = u → (u 1).toInt = (T : Int) → (u 2).toInt = (t : Int) → pmZ E C 64 [some (rr E a), none] [] S (va_up I a u) P 0 0 := by
    intro u hu hu1 hu2
    have loop : ∀ (r k : Nat) (x : Int32), x.toInt = (k : Int) → t ≤ k → k + r = T - 1 → pmZ E C 75 [some (rr E a), some (.int x)] [] S (va_up I a (va_cpy (va_up u 1 (iN (T - 1))) (va_up u 1 (iN (T - 1))) (54 + 10 * t) (44 + 10 * t) (10 * (k - t)))) P 0 0 := by
      intro r
      have e1 : ∀ n, va_cpy (va_up u 1 (iN (T - 1))) (va_up u 1 (iN (T - 1))) (54 + 10 * t) (44 + 10 * t) n 1 = iN (T - 1) := fun n => by rw [cpy_off (by omega), va_up_self]
      have e2 : ∀ n, va_cpy (va_up u 1 (iN (T - 1))) (va_up u 1 (iN (T - 1))) (54 + 10 * t) (44 + 10 * t) n 2 = iN t := fun n => by rw [cpy_off (by omega), va_up_ne _ _ (by omega), iN_of hu2]
      induction r with
      | zero =>
        intro k x hx hk hr
        refine z_iload_n G dX10_closes_75 rfl ?_
        refine z_aload_n G dX10_closes_76 rfl ?_
        refine z_iconst G (v := 1) dX10_closes_77 (by decide) ?_
        refine z_iald G (1) dX10_closes_78 (by assumption) (rfl) (by omega) ?_
        rw [va_up_self, e1]
        refine z_icmp_ge G 108 dX10_closes_79 (by decide) (fun b79 => ?_) (fun b79 => ?_)
        · refine z_aload_n G dX10_closes_108 rfl ?_
          refine z_iconst G (v := 2) dX10_closes_109 (by decide) ?_
          refine z_aload_n G dX10_closes_110 rfl ?_
          refine z_iconst G (v := 2) dX10_closes_111 (by decide) ?_
          refine z_iald G (2) dX10_closes_112 (by assumption) (rfl) (by omega) ?_
          rw [va_up_self, e2]
          refine z_aload_n G dX10_closes_113 rfl ?_
          refine z_iconst G (v := 1) dX10_closes_114 (by decide) ?_
          refine z_iald G (1) dX10_closes_115 (by assumption) (rfl) (by omega) ?_
          rw [va_up_self, e1]
          refine z_icmp_ge G 125 dX10_closes_116 (by decide) (fun b116 => ?_) (fun b116 => ?_)
          · refine z_aload_n G dX10_closes_125 rfl ?_
            refine z_iconst G (v := 1) dX10_closes_126 (by decide) ?_
            refine z_iald G (1) dX10_closes_127 (by assumption) (rfl) (by omega) ?_
            rw [va_up_self, e1]
            refine z_iconst G (v := 1) dX10_closes_128 (by decide) ?_
            refine z_isub G dX10_closes_129 ?_
            refine z_top (y := iN (T - 2)) (by simp (disch := omega) only [iN_lit, iN_add, iN_sub, iN_mul, iN_an] <;> exact congrArg iN (by omega)) ?_
            refine z_iast G (2) dX10_closes_130 (by assumption) (rfl) (by omega) ?_
            exact z_vret G hq dX10_closes_131 (by have hge : ¬ t < T - 1 := (by simp (disch := omega) only [iN_lit, iN_add, iN_sub, iN_mul, iN_an, iN_le, iN_lt, iN_eq] at b116; omega); rw [show k = T - 1 by omega]; simpa only [closesF, hu, if_neg hge, va_up_self, va_up_up] using h)
          · refine z_aload_n G dX10_closes_119 rfl ?_
            refine z_iconst G (v := 2) dX10_closes_120 (by decide) ?_
            refine z_iald G (2) dX10_closes_121 (by assumption) (rfl) (by omega) ?_
            rw [va_up_self, e2]
            refine z_goto G 130 dX10_closes_122 (by decide) ?_
            refine z_iast G (2) dX10_closes_130 (by assumption) (rfl) (by omega) ?_
            exact z_vret G hq dX10_closes_131 (by have hlt : t < T - 1 := (by simp (disch := omega) only [iN_lit, iN_add, iN_sub, iN_mul, iN_an, iN_le, iN_lt, iN_eq] at b116; omega); rw [show k = T - 1 by omega]; simpa only [closesF, hu, if_pos hlt, va_up_self, va_up_up] using h)
        · exact absurd (by simp (disch := omega) only [iN_lit, iN_add, iN_sub, iN_mul, iN_an, iN_le, iN_lt, iN_eq, iN_of hx]; omega) b79
      | succ r ih =>
        intro k x hx hk hr
        refine z_iload_n G dX10_closes_75 rfl ?_
        refine z_aload_n G dX10_closes_76 rfl ?_
        refine z_iconst G (v := 1) dX10_closes_77 (by decide) ?_
        refine z_iald G (1) dX10_closes_78 (by assumption) (rfl) (by omega) ?_
        rw [va_up_self, e1]
        refine z_icmp_ge G 108 dX10_closes_79 (by decide) (fun b79 => ?_) (fun b79 => ?_)
        · exact absurd b79 (by simp (disch := omega) only [iN_lit, iN_add, iN_sub, iN_mul, iN_an, iN_le, iN_lt, iN_eq, iN_of hx]; omega)
        · refine z_aload_n G dX10_closes_82 rfl ?_
          refine z_bipush G (v := 44) dX10_closes_83 (by decide) ?_
          refine z_bipush G (v := 10) dX10_closes_85 (by decide) ?_
          refine z_iload_n G dX10_closes_87 rfl ?_
          refine z_iconst G (v := 1) dX10_closes_88 (by decide) ?_
          refine z_iadd G dX10_closes_89 ?_
          refine z_imul G dX10_closes_90 ?_
          refine z_iadd G dX10_closes_91 ?_
          refine z_bipush G (v := 44) dX10_closes_92 (by decide) ?_
          refine z_bipush G (v := 10) dX10_closes_94 (by decide) ?_
          refine z_iload_n G dX10_closes_96 rfl ?_
          refine z_imul G dX10_closes_97 ?_
          refine z_iadd G dX10_closes_98 ?_
          refine z_S G lk_X10_164 dX10_closes_99 [_, _, _] rfl rfl rfl (Nat.le_of_ble_eq_true rfl) ⟨Nat.le_refl _, Nat.le_refl _⟩ ?_
          refine k_X10_moves ho (f := 44 + 10 * (k + 1)) (g := 44 + 10 * k) (by simp (disch := omega) only [iN_lit, iN_add, iN_sub, iN_mul, iN_an, iN_of hx]; exact iN_ti2 (by omega) (by omega)) (by simp (disch := omega) only [iN_lit, iN_add, iN_sub, iN_mul, iN_an, iN_of hx]; exact iN_ti2 (by omega) (by omega)) (by omega) (by omega) (by omega) ?_
          refine z_iinc G (v := 1) dX10_closes_102 (by decide) rfl rfl ?_
          refine z_goto G 75 dX10_closes_105 (by decide) ?_
          refine z_eq rfl rfl rfl ?_ rfl (ih (k + 1) _ (by simp (disch := omega) only [iN_lit, iN_add, iN_sub, iN_mul, iN_an, iN_of hx]; exact iN_ti2 (by omega) (by omega)) (by omega) (by omega))
          rw [va_up_up, va_up_self, cls_step hk]
    refine z_aload_n G dX10_closes_64 rfl ?_
    refine z_iconst G (v := 1) dX10_closes_65 (by decide) ?_
    refine z_dup2 G dX10_closes_66 rfl rfl ?_
    refine z_iald G (1) dX10_closes_67 (by assumption) (rfl) (by omega) ?_
    rw [va_up_self]
    refine z_iconst G (v := 1) dX10_closes_68 (by decide) ?_
    refine z_isub G dX10_closes_69 ?_
    refine z_top (y := iN (T - 1)) (by simp (disch := omega) only [iN_lit, iN_add, iN_sub, iN_mul, iN_an, iN_of hu1] <;> exact congrArg iN (by omega)) ?_
    refine z_iast G (1) dX10_closes_70 (by assumption) (rfl) (by omega) ?_
    simp only [va_up_self, va_up_up]
    refine z_aload_n G dX10_closes_71 rfl ?_
    refine z_iconst G (v := 2) dX10_closes_72 (by decide) ?_
    refine z_iald G (2) dX10_closes_73 (by assumption) (rfl) (by omega) ?_
    rw [va_up_self, va_up_ne _ _ (by omega)]
    refine z_istore_n G dX10_closes_74 (Nat.le_of_ble_eq_true rfl) rfl ?_
    refine z_eq rfl rfl rfl ?_ rfl (loop (T - 1 - t) t _ hu2 (Nat.le_refl _) (by omega))
    rw [Nat.sub_self, Nat.mul_zero, cpy_0]
  refine z_aload_n G dX10_closes_0 rfl ?_
  refine z_aload_n G dX10_closes_1 rfl ?_
  refine z_S G lk_X10_161 dX10_closes_2 [_] rfl rfl rfl (Nat.le_of_ble_eq_true rfl) ⟨Nat.le_refl _, Nat.le_refl _⟩ ?_
  refine k_X10_tabNow ho ht (by omega) (fun v hv => ?_)
  refine z_iald G (44 + 10 * t) dX10_closes_5 (by assumption) (hv) (by omega) ?_
  refine z_iconst G (v := 4) dX10_closes_6 (by decide) ?_
  refine z_icmp_ge G 64 dX10_closes_7 (by decide) (fun b7 => ?_) (fun b7 => ?_)
  · refine z_eq rfl rfl rfl ?_ rfl (tail (I a) (by rw [keepF, if_neg (by simp only [ti_lt, ti_le] at *; omega)]) hT ht)
    rw [va_up_id]
  · refine z_aload_n G dX10_closes_10 rfl ?_
    refine z_iconst G (v := 3) dX10_closes_11 (by decide) ?_
    refine z_iald G (3) dX10_closes_12 (by assumption) (rfl) (by omega) ?_
    refine z_iconst G (v := 3) dX10_closes_13 (by decide) ?_
    refine z_icmp_ne G 40 dX10_closes_14 (by decide) (fun b14 => ?_) (fun b14 => ?_)
    · have hc3e : ¬ c = 3 := fun q => b14 (by rw [iN_of hc, q]; rfl)
      refine z_aload_n G dX10_closes_40 rfl ?_
      refine z_aload_n G dX10_closes_41 rfl ?_
      refine z_S G lk_X10_161 dX10_closes_42 [_] rfl rfl rfl (Nat.le_of_ble_eq_true rfl) ⟨Nat.le_refl _, Nat.le_refl _⟩ ?_
      refine k_X10_tabNow ho ht (by omega) (fun w hw => ?_)
      refine z_bipush G (v := 94) dX10_closes_45 (by decide) ?_
      refine z_bipush G (v := 10) dX10_closes_47 (by decide) ?_
      refine z_aload_n G dX10_closes_49 rfl ?_
      refine z_iconst G (v := 3) dX10_closes_50 (by decide) ?_
      refine z_iald G (3) dX10_closes_51 (by assumption) (rfl) (by omega) ?_
      refine z_imul G dX10_closes_52 ?_
      refine z_iadd G dX10_closes_53 ?_
      refine z_S G lk_X10_164 dX10_closes_54 [_, _, _] rfl rfl rfl (Nat.le_of_ble_eq_true rfl) ⟨Nat.le_refl _, Nat.le_refl _⟩ ?_
      refine k_X10_moves ho (f := 44 + 10 * t) (g := 94 + 10 * c) hw (by simp (disch := omega) only [iN_lit, iN_add, iN_sub, iN_mul, iN_an, iN_of hc]; exact iN_ti2 (by omega) (by omega)) (by omega) (by omega) (by omega) ?_
      refine z_aload_n G dX10_closes_57 rfl ?_
      refine z_iconst G (v := 3) dX10_closes_58 (by decide) ?_
      refine z_dup2 G dX10_closes_59 rfl rfl ?_
      refine z_iald G (3) dX10_closes_60 (by assumption) (rfl) (by omega) ?_
      rw [va_up_self, cpy_off (by omega)]
      refine z_iconst G (v := 1) dX10_closes_61 (by decide) ?_
      refine z_iadd G dX10_closes_62 ?_
      refine z_top (y := iN (c + 1)) (by simp (disch := omega) only [iN_lit, iN_add, iN_sub, iN_mul, iN_an, iN_of hc] <;> exact congrArg iN (by omega)) ?_
      refine z_iast G (3) dX10_closes_63 (by assumption) (rfl) (by omega) ?_
      simp only [va_up_self, va_up_up]
      refine tail _ ?_ ?_ ?_
      · rw [keepF, if_pos (by simp only [ti_lt, ti_le] at *; omega), if_neg hc3e]
      · rw [va_up_ne _ _ (by omega), cpy_off (by omega)]; exact hT
      · rw [va_up_ne _ _ (by omega), cpy_off (by omega)]; exact ht
    · refine z_aload_n G dX10_closes_17 rfl ?_
      refine z_bipush G (v := 104) dX10_closes_18 (by decide) ?_
      refine z_bipush G (v := 94) dX10_closes_20 (by decide) ?_
      refine z_S G lk_X10_164 dX10_closes_22 [_, _, _] rfl rfl rfl (Nat.le_of_ble_eq_true rfl) ⟨Nat.le_refl _, Nat.le_refl _⟩ ?_
      refine k_X10_moves ho (f := 104) (g := 94) rfl rfl (by omega) (by omega) (by omega) ?_
      refine z_aload_n G dX10_closes_25 rfl ?_
      refine z_bipush G (v := 114) dX10_closes_26 (by decide) ?_
      refine z_bipush G (v := 104) dX10_closes_28 (by decide) ?_
      refine z_S G lk_X10_164 dX10_closes_30 [_, _, _] rfl rfl rfl (Nat.le_of_ble_eq_true rfl) ⟨Nat.le_refl _, Nat.le_refl _⟩ ?_
      refine k_X10_moves ho (f := 114) (g := 104) rfl rfl (by omega) (by omega) (by omega) ?_
      simp only [va_up_self, va_up_up]
      refine z_aload_n G dX10_closes_33 rfl ?_
      refine z_iconst G (v := 3) dX10_closes_34 (by decide) ?_
      refine z_dup2 G dX10_closes_35 rfl rfl ?_
      refine z_iald G (3) dX10_closes_36 (by assumption) (rfl) (by omega) ?_
      rw [va_up_self, cpy_off (by omega), cpy_off (by omega)]
      refine z_iconst G (v := 1) dX10_closes_37 (by decide) ?_
      refine z_isub G dX10_closes_38 ?_
      refine z_top (y := iN 2) (by rw [b14]; rfl) ?_
      refine z_iast G (3) dX10_closes_39 (by assumption) (rfl) (by omega) ?_
      simp only [va_up_self, va_up_up]
      have hc3e : c = 3 := by have := congrArg Int32.toInt b14; simp only [Int32.reduceToInt] at this; omega
      refine z_aload_n G dX10_closes_40 rfl ?_
      refine z_aload_n G dX10_closes_41 rfl ?_
      refine z_S G lk_X10_161 dX10_closes_42 [_] rfl rfl rfl (Nat.le_of_ble_eq_true rfl) ⟨Nat.le_refl _, Nat.le_refl _⟩ ?_
      refine k_X10_tabNow ho (t := t) (by rw [va_up_self, va_up_ne _ _ (by omega), cpy_off (by omega), cpy_off (by omega)]; exact ht) (by omega) (fun w hw => ?_)
      refine z_bipush G (v := 94) dX10_closes_45 (by decide) ?_
      refine z_bipush G (v := 10) dX10_closes_47 (by decide) ?_
      refine z_aload_n G dX10_closes_49 rfl ?_
      refine z_iconst G (v := 3) dX10_closes_50 (by decide) ?_
      refine z_iald G (3) dX10_closes_51 (by assumption) (rfl) (by omega) ?_
      rw [va_up_self, va_up_self]
      refine z_imul G dX10_closes_52 ?_
      refine z_iadd G dX10_closes_53 ?_
      refine z_S G lk_X10_164 dX10_closes_54 [_, _, _] rfl rfl rfl (Nat.le_of_ble_eq_true rfl) ⟨Nat.le_refl _, Nat.le_refl _⟩ ?_
      refine k_X10_moves ho (f := 44 + 10 * t) (g := 114) hw rfl (by omega) (by omega) (by omega) ?_
      simp only [va_up_self, va_up_up]
      refine z_aload_n G dX10_closes_57 rfl ?_
      refine z_iconst G (v := 3) dX10_closes_58 (by decide) ?_
      refine z_dup2 G dX10_closes_59 rfl rfl ?_
      refine z_iald G (3) dX10_closes_60 (by assumption) (rfl) (by omega) ?_
      rw [va_up_self, cpy_off (by omega), va_up_self]
      refine z_iconst G (v := 1) dX10_closes_61 (by decide) ?_
      refine z_iadd G dX10_closes_62 ?_
      refine z_top (y := iN 3) rfl ?_
      refine z_iast G (3) dX10_closes_63 (by assumption) (rfl) (by omega) ?_
      simp only [va_up_self, va_up_up]
      refine tail _ ?_ ?_ ?_
      · rw [keepF, if_pos (by simp only [ti_lt, ti_le] at *; omega), if_pos hc3e]
      · rw [va_up_ne _ _ (by omega), cpy_off (by omega), va_up_ne _ _ (by omega), cpy_off (by omega), cpy_off (by omega)]; exact hT
      · rw [va_up_ne _ _ (by omega), cpy_off (by omega), va_up_ne _ _ (by omega), cpy_off (by omega), cpy_off (by omega)]; exact ht
set_option maxHeartbeats 1000000 in
set_option maxRecDepth 20000 in
theorem k_X10_visitsOf {E : pmE} {d : Nat} {S : pmS} {I : pmI} {P : pmP} {R : Option Value → pmS → pmI → pmP → Prop} {a n : Nat} (ho : AR S a 11 124) (hn : (I a 0).toInt = (n : Int)) (hn8 : n ≤ 8) (h : R (some (.int (sumV (I a) n))) S I P) : pmX E d 0 0 yX10_visitsOf [rr E a] S I P R := by
  refine pm_of (by decide) cd_X10_visitsOf (by decide) (by decide) (Nat.le_of_ble_eq_true rfl) ?_
  intro C G hq
  have loop : ∀ (r k : Nat) (x : Int32), x.toInt = (k : Int) → k + r = n → pmZ E C 4 [some (rr E a), some (.int (sumV (I a) k)), some (.int x)] [] S I P 0 0 := by
    intro r
    induction r with
    | zero =>
      intro k x hx hr
      refine z_iload_n G dX10_visitsOf_4 rfl ?_
      refine z_aload_n G dX10_visitsOf_5 rfl ?_
      refine z_iconst G (v := 0) dX10_visitsOf_6 (by decide) ?_
      refine z_iald G (0) dX10_visitsOf_7 (by assumption) (rfl) (by omega) ?_
      refine z_icmp_ge G 29 dX10_visitsOf_8 (by decide) (fun b8 => ?_) (fun b8 => ?_)
      · refine z_iload_n G dX10_visitsOf_29 rfl ?_
        exact z_iret G hq dX10_visitsOf_30 (by rw [show k = n by omega]; exact h)
      · exact absurd (by simp (disch := omega) only [iN_lit, iN_add, iN_sub, iN_mul, iN_an, iN_le, iN_lt, iN_eq, iN_of hx, iN_of hn]; omega) b8
    | succ r ih =>
      intro k x hx hr
      refine z_iload_n G dX10_visitsOf_4 rfl ?_
      refine z_aload_n G dX10_visitsOf_5 rfl ?_
      refine z_iconst G (v := 0) dX10_visitsOf_6 (by decide) ?_
      refine z_iald G (0) dX10_visitsOf_7 (by assumption) (rfl) (by omega) ?_
      refine z_icmp_ge G 29 dX10_visitsOf_8 (by decide) (fun b8 => ?_) (fun b8 => ?_)
      · exact absurd b8 (by simp (disch := omega) only [iN_lit, iN_add, iN_sub, iN_mul, iN_an, iN_le, iN_lt, iN_eq, iN_of hx, iN_of hn]; omega)
      · refine z_iload_n G dX10_visitsOf_11 rfl ?_
        refine z_aload_n G dX10_visitsOf_12 rfl ?_
        refine z_iconst G (v := 4) dX10_visitsOf_13 (by decide) ?_
        refine z_iconst G (v := 5) dX10_visitsOf_14 (by decide) ?_
        refine z_iload_n G dX10_visitsOf_15 rfl ?_
        refine z_imul G dX10_visitsOf_16 ?_
        refine z_iadd G dX10_visitsOf_17 ?_
        refine z_iconst G (v := 4) dX10_visitsOf_18 (by decide) ?_
        refine z_iadd G dX10_visitsOf_19 ?_
        refine z_iald G (8 + 5 * k) dX10_visitsOf_20 (by assumption) (by simp (disch := omega) only [iN_lit, iN_add, iN_sub, iN_mul, iN_an, iN_of hx]; exact iN_ti2 (by omega) (by omega)) (by omega) ?_
        refine z_iadd G dX10_visitsOf_21 ?_
        refine z_istore_n G dX10_visitsOf_22 (Nat.le_of_ble_eq_true rfl) rfl ?_
        refine z_iinc G (v := 1) dX10_visitsOf_23 (by decide) rfl rfl ?_
        refine z_goto G 4 dX10_visitsOf_26 (by decide) ?_
        exact ih (k + 1) _ (by simp (disch := omega) only [iN_lit, iN_add, iN_sub, iN_mul, iN_an, iN_of hx]; exact iN_ti2 (by omega) (by omega)) (by omega)
  refine z_iconst G (v := 0) dX10_visitsOf_0 (by decide) ?_
  refine z_istore_n G dX10_visitsOf_1 (Nat.le_of_ble_eq_true rfl) rfl ?_
  refine z_iconst G (v := 0) dX10_visitsOf_2 (by decide) ?_
  refine z_istore_n G dX10_visitsOf_3 (Nat.le_of_ble_eq_true rfl) rfl ?_
  exact loop n 0 0 rfl (by omega)
