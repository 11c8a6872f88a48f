set_option maxHeartbeats 1000000 in
set_option maxRecDepth 20000 in
theorem k_X8_walkedTo {E : pmE} {d : Nat} {S : pmS} {I : pmI} {P : pmP} {R : Option Value → pmS → pmI → pmP → Prop} {g n p k jn : Nat} {w : Nat → Int32} {steps j : Int32} (hG : WebG S P g) (hr : WR I g w n) (hn : (w 0).toInt = (n : Int)) (h8 : n ≤ 8) (hv : VL w n) (hpn : p < n) (hk : steps.toInt = (k : Int)) (hk60 : k ≤ 60) (hj : j.toInt = (jn : Int)) (hj3 : jn < 3) (h : R (some (.int (iN (walkN w jn k p)))) S I P) : pmX E (d + 3) 0 0 yX8_walkedTo [rr E g, .int (iN p), .int steps, .int j] S I P R := by
  refine pm_of (by decide) cd_X8_walkedTo (by decide) (by decide) (Nat.le_of_ble_eq_true rfl) ?_
  intro C G hq
  obtain ⟨g1, g2, g3, g4, g5⟩ := id hG
  have loop : ∀ (r q y : Nat) (x : Int32), x.toInt = (y : Int) → y + r = k → q < n → walkN w jn r q = walkN w jn k p → pmZ E C 6 [some (rr E g), some (.int (iN p)), some (.int steps), some (.int j), some (.int (iN q)), some (.int x)] [] S I P 0 0 := by
    intro r
    induction r with
    | zero =>
      intro q y x hx hr9 hq9 he
      refine z_iload G dX8_walkedTo_6 rfl ?_
      refine z_iload_n G dX8_walkedTo_8 rfl ?_
      refine z_icmp_ge G 38 dX8_walkedTo_9 (by decide) (fun _ => ?_) (fun c => absurd c (fun z => z (by simp (disch := omega) only [iN_lit, iN_add, iN_sub, iN_mul, iN_an, iN_le, iN_lt, iN_eq, iN_of hx, iN_of hk]; omega)))
      refine z_iload G dX8_walkedTo_38 rfl ?_
      exact z_iret G hq dX8_walkedTo_40 (by rw [← he] at h; exact h)
    | succ r ih =>
      intro q y x hx hr9 hq9 he
      obtain ⟨n1, c, c1, c2, c3, c4⟩ := nextP_ok (j := jn) hv hq9
      refine z_iload G dX8_walkedTo_6 rfl ?_
      refine z_iload_n G dX8_walkedTo_8 rfl ?_
      refine z_icmp_ge G 38 dX8_walkedTo_9 (by decide) (fun c => absurd c (by simp (disch := omega) only [iN_lit, iN_add, iN_sub, iN_mul, iN_an, iN_le, iN_lt, iN_eq, iN_of hx, iN_of hk]; omega)) (fun _ => ?_)
      refine z_aload_n G dX8_walkedTo_12 rfl ?_
      refine z_iload G dX8_walkedTo_13 rfl ?_
      refine z_iload_n G dX8_walkedTo_15 rfl ?_
      refine z_aload_n G dX8_walkedTo_16 rfl ?_
      refine z_iload G dX8_walkedTo_17 rfl ?_
      refine z_V G lk_X8_32 dX8_walkedTo_19 [_] rfl rfl rfl (Nat.le_of_ble_eq_true rfl) ⟨Nat.le_refl _, Nat.le_refl _⟩ (by assumption) ?_
      refine k_X8_linksOf hG hr hn h8 (iN_ti (by omega)) hq9 ?_
      refine z_iconst G (v := 1) dX8_walkedTo_22 (by decide) ?_
      refine z_isub G dX8_walkedTo_23 ?_
      refine z_mmin G ml_X8_37 mn_s mm_i mn_c dX8_walkedTo_24 rfl (Nat.le_of_ble_eq_true rfl) ⟨Nat.le_refl _, Nat.le_refl _⟩ ?_
      refine z_top (y := iN (min jn (c - 1))) (by rw [iN_of c1, iN_of hj, iN_lit, iN_sub (by omega)]; simp (disch := omega) only [iN_lt]; split <;> (congr 1; omega)) ?_
      refine z_V G lk_X8_43 dX8_walkedTo_27 [_, _] rfl rfl rfl (Nat.le_of_ble_eq_true rfl) ⟨Nat.le_refl _, Nat.le_refl _⟩ (by assumption) ?_
      refine k_X8_target hG hr hn h8 (iN_ti (by omega)) hq9 c1 c3 (fun j2 e1 e2 => ?_) (fun z => absurd ⟨by rw [iN_ti (by omega)]; omega, by rw [iN_ti (by omega)]; omega⟩ z)
      rw [iN_ti (by omega)] at e1
      rw [show j2 = min jn (c - 1) by omega, c4]
      refine z_istore G dX8_walkedTo_30 (Nat.le_of_ble_eq_true rfl) rfl ?_
      refine z_iinc G (v := 1) dX8_walkedTo_32 (by decide) rfl rfl ?_
      refine z_goto G 6 dX8_walkedTo_35 (by decide) ?_
      exact ih (nextP w jn q) (y + 1) _ (by simp (disch := omega) only [iN_lit, iN_add, iN_sub, iN_mul, iN_an, iN_of hx]; exact iN_ti2 (by omega) (by omega)) (by omega) n1 he
  refine z_iload_n G dX8_walkedTo_0 rfl ?_
  refine z_istore G dX8_walkedTo_1 (Nat.le_of_ble_eq_true rfl) rfl ?_
  refine z_iconst G (v := 0) dX8_walkedTo_3 (by decide) ?_
  refine z_istore G dX8_walkedTo_4 (Nat.le_of_ble_eq_true rfl) rfl ?_
  exact loop k p 0 0 rfl (by omega) hpn rfl
set_option maxHeartbeats 1000000 in
set_option maxRecDepth 20000 in
theorem k_X9_walk {E : pmE} {d : Nat} {S : pmS} {I : pmI} {P : pmP} {R : Option Value → pmS → pmI → pmP → Prop} (hX : XG S P) {n T t c : Nat} {w : Nat → Int32} (hD : DR I P 30 w T c) (hV : Vd w n T t c) (hW : WR I 27 w n) {nn j : Int32} (hb : (¬ ∃ k jn : Nat, nn.toInt = (k : Int) ∧ k ≤ 60 ∧ j.toInt = (jn : Int) ∧ jn < 3) → R (some (.int (-1000001))) S I P) (hok : ∀ k jn s p : Nat, nn.toInt = (k : Int) → k ≤ 60 → j.toInt = (jn : Int) → jn < 3 → Nw w t s p → R (some (.int (iN (walkN w jn k p)))) S I P) : pmX E (d + 4) 0 0 yX9_walk [rr E 0, .int nn, .int j] S I P R := by
  refine pm_of (by decide) cd_X9_walk (by decide) (by decide) (Nat.le_of_ble_eq_true rfl) ?_
  intro C G hq
  obtain ⟨⟨a0, a1, a2, a3, a4, a5, a6, a7, a8⟩, hRG, hRdG, hWG, hDG, ⟨z1, z2, z3, z4⟩, hIG, hFG, hAG⟩ := id hX
  obtain ⟨v1, v2, v3, v4, v5, v6, v7, v8⟩ := id hV
  obtain ⟨s, p, hN, hpn⟩ := hV.nw
  refine z_aload_n G dX9_walk_0 rfl ?_
  refine z_V G lk_X9_142 dX9_walk_1 [] rfl rfl rfl (Nat.le_of_ble_eq_true rfl) ⟨Nat.le_refl _, Nat.le_refl _⟩ (by assumption) ?_
  refine k_X9_stands hX (by rw [hW.1]; exact v1.1) (fun _ => ?_) (fun q => absurd q (by omega))
  refine z_if_ne G 10 dX9_walk_4 (by decide) (fun _ => ?_) (fun c => absurd c (by decide))
  refine z_iload_n G dX9_walk_10 rfl ?_
  refine z_if_lt G 27 dX9_walk_11 (by decide) (fun b11 => ?_) (fun b11 => ?_)
  · refine z_ldc G ct_X9_73 dX9_walk_27 ?_
    exact z_iret G hq dX9_walk_29 (hb (fun ⟨k, jn, q1, q2, _⟩ => by simp only [ti_lt, ti_le, Int32.reduceToInt] at *; omega))
  · refine z_iload_n G dX9_walk_14 rfl ?_
    refine z_bipush G (v := 60) dX9_walk_15 (by decide) ?_
    refine z_icmp_gt G 27 dX9_walk_17 (by decide) (fun b17 => ?_) (fun b17 => ?_)
    · refine z_ldc G ct_X9_73 dX9_walk_27 ?_
      exact z_iret G hq dX9_walk_29 (hb (fun ⟨k, jn, q1, q2, _⟩ => by simp only [ti_lt, ti_le, Int32.reduceToInt] at *; omega))
    · refine z_iload_n G dX9_walk_20 rfl ?_
      refine z_S G lk_X9_146 dX9_walk_21 [_] rfl rfl rfl (Nat.le_of_ble_eq_true rfl) ⟨Nat.le_refl _, Nat.le_refl _⟩ ?_
      refine k_X9_isLinkNumber ?_ ?_
      · intro jn hj hj3
        refine z_if_ne G 30 dX9_walk_24 (by decide) (fun _ => ?_) (fun c => absurd c (by decide))
        obtain ⟨k, hk1, hk2⟩ : ∃ k : Nat, nn.toInt = (k : Int) ∧ k ≤ 60 := ⟨nn.toInt.toNat, by simp only [ti_lt, ti_le, Int32.reduceToInt] at *; omega, by simp only [ti_lt, ti_le, Int32.reduceToInt] at *; omega⟩
        refine z_aload_n G dX9_walk_30 rfl ?_
        refine z_getR G fl_X9_25 rfl dX9_walk_31 (by assumption) (by assumption) ?_
        refine z_aload_n G dX9_walk_34 rfl ?_
        refine z_getR G fl_X9_32 rfl dX9_walk_35 (by assumption) (by assumption) ?_
        refine z_V G lk_X9_160 dX9_walk_38 [] rfl rfl rfl (Nat.le_of_ble_eq_true rfl) ⟨Nat.le_refl _, Nat.le_refl _⟩ hDG.1.1 ?_
        refine k_X1_shownPage hDG hD hV hN ?_
        rw [iN_of hN.2.2.2.2.1]
        refine z_iload_n G dX9_walk_41 rfl ?_
        refine z_iload_n G dX9_walk_42 rfl ?_
        refine z_V G lk_X9_225 dX9_walk_43 [_, _, _] rfl rfl rfl (Nat.le_of_ble_eq_true rfl) ⟨Nat.le_refl _, Nat.le_refl _⟩ hWG.1 ?_
        refine k_X8_walkedTo hWG hW v1.1 v1.2.2 v5 hpn hk1 hk2 hj hj3 ?_
        exact z_iret G hq dX9_walk_46 (hok k jn s p hk1 hk2 hj hj3 hN)
      · intro hno
        refine z_if_ne G 30 dX9_walk_24 (by decide) (fun c => absurd c (by decide)) (fun _ => ?_)
        refine z_ldc G ct_X9_73 dX9_walk_27 ?_
        exact z_iret G hq dX9_walk_29 (hb (fun ⟨k, jn, _, _, q1, q2⟩ => hno ⟨jn, q1, q2⟩))
set_option maxHeartbeats 1000000 in
set_option maxRecDepth 20000 in
theorem k_X10_walk {E : pmE} {d : Nat} {S : pmS} {I : pmI} {P : pmP} {R : Option Value → pmS → pmI → pmP → Prop} {m : Nat} (hM : MG S P m) {n T t c : Nat} (hV : Vd (I (m + 6)) n T t c) {nn j : Int32} (hb : (¬ ∃ k jn : Nat, nn.toInt = (k : Int) ∧ k ≤ 60 ∧ j.toInt = (jn : Int) ∧ jn < 3) → R (some (.int (-1000001))) S I P) (hok : ∀ k jn s p : Nat, nn.toInt = (k : Int) → k ≤ 60 → j.toInt = (jn : Int) → jn < 3 → Nw (I (m + 6)) t s p → R (some (.int (iN (walkN (I (m + 6)) jn k p)))) S I P) : pmX E (d + 2) 0 0 yX10_walk [rr E m, .int nn, .int j] S I P R := by
  refine pm_of (by decide) cd_X10_walk (by decide) (by decide) (Nat.le_of_ble_eq_true rfl) ?_
  intro C G hq
  obtain ⟨g0, ⟨r0, r1, r2, r3, r4, r5, r6, r7, r8, r9, r10, r11, r12, r13, r14⟩, ⟨s1, s2, s3, s4, s5, s6, s7, s8, s9, s10, s11, s12, s13, s14, s15⟩⟩ := id hM
  obtain ⟨v1, v2, v3, v4, v5, v6, v7, v8⟩ := id hV
  obtain ⟨s, p, hN, hpn⟩ := hV.nw
  have loop : ∀ (k jn : Nat), nn.toInt = (k : Int) → k ≤ 60 → j.toInt = (jn : Int) → jn < 3 → ∀ (r q y : Nat) (x : Int32) (o9 : Option Value), x.toInt = (y : Int) → y + r = k → q < n → walkN (I (m + 6)) jn r q = walkN (I (m + 6)) jn k p → pmZ E C 43 [some (rr E m), some (.int nn), some (.int j), some (.int (iN q)), some (.int x), o9] [] S I P 0 0 := by
    intro k jn hk hk60 hj hj3 r
    induction r with
    | zero =>
      intro q y x o9 hx hr9 hq9 he
      refine z_iload G dX10_walk_43 rfl ?_
      refine z_iload_n G dX10_walk_45 rfl ?_
      refine z_icmp_ge G 93 dX10_walk_46 (by decide) (fun _ => ?_) (fun c => absurd c (fun z => z (by simp (disch := omega) only [iN_lit, iN_add, iN_sub, iN_mul, iN_an, iN_le, iN_lt, iN_eq, iN_of hx, iN_of hk]; omega)))
      refine z_iload_n G dX10_walk_93 rfl ?_
      exact z_iret G hq dX10_walk_94 (by have he2 : q = walkN (I (m + 6)) jn k p := he; rw [he2]; exact hok k jn s p hk hk60 hj hj3 hN)
    | succ r ih =>
      intro q y x o9 hx hr9 hq9 he
      obtain ⟨n1, c, c1, c2, c3, c4⟩ := nextP_ok (j := jn) v5 hq9
      refine z_iload G dX10_walk_43 rfl ?_
      refine z_iload_n G dX10_walk_45 rfl ?_
      refine z_icmp_ge G 93 dX10_walk_46 (by decide) (fun c => absurd c (by simp (disch := omega) only [iN_lit, iN_add, iN_sub, iN_mul, iN_an, iN_le, iN_lt, iN_eq, iN_of hx, iN_of hk]; omega)) (fun _ => ?_)
      refine z_aload_n G dX10_walk_49 rfl ?_
      refine z_getR G fl_X10_25 rfl dX10_walk_50 (by assumption) (by assumption) ?_
      refine z_iconst G (v := 4) dX10_walk_53 (by decide) ?_
      refine z_iconst G (v := 5) dX10_walk_54 (by decide) ?_
      refine z_iload_n G dX10_walk_55 rfl ?_
      refine z_imul G dX10_walk_56 ?_
      refine z_iadd G dX10_walk_57 ?_
      refine z_iald G (4 + 5 * q) dX10_walk_58 (by assumption) (by simp (disch := omega) only [iN_lit, iN_add, iN_sub, iN_mul, iN_an]; exact iN_ti2 (by omega) (by omega)) (by omega) ?_
      rw [iN_of c1]
      refine z_istore G dX10_walk_59 (Nat.le_of_ble_eq_true rfl) rfl ?_
      refine z_aload_n G dX10_walk_61 rfl ?_
      refine z_getR G fl_X10_25 rfl dX10_walk_62 (by assumption) (by assumption) ?_
      refine z_iconst G (v := 4) dX10_walk_65 (by decide) ?_
      refine z_iconst G (v := 5) dX10_walk_66 (by decide) ?_
      refine z_iload_n G dX10_walk_67 rfl ?_
      refine z_imul G dX10_walk_68 ?_
      refine z_iadd G dX10_walk_69 ?_
      refine z_iload_n G dX10_walk_70 rfl ?_
      refine z_iload G dX10_walk_71 rfl ?_
      refine z_icmp_ge G 82 dX10_walk_73 (by decide) (fun b73 => ?_) (fun b73 => ?_)
      · refine z_iload G dX10_walk_82 rfl ?_
        refine z_iadd G dX10_walk_84 ?_
        have hge : c ≤ jn := by simp (disch := omega) only [iN_lit, iN_add, iN_sub, iN_mul, iN_an, iN_le, iN_lt, iN_eq, iN_of hj] at b73; exact b73
        refine z_iald G (5 + 5 * q + min jn (c - 1)) dX10_walk_85 (by assumption) (by simp (disch := omega) only [iN_lit, iN_add, iN_sub, iN_mul, iN_an]; exact iN_ti2 (by omega) (by omega)) (by omega) ?_
        rw [c4]
        refine z_istore_n G dX10_walk_86 (Nat.le_of_ble_eq_true rfl) rfl ?_
        refine z_iinc G (v := 1) dX10_walk_87 (by decide) rfl rfl ?_
        refine z_goto G 43 dX10_walk_90 (by decide) ?_
        exact ih (nextP (I (m + 6)) jn q) (y + 1) _ _ (by simp (disch := omega) only [iN_lit, iN_add, iN_sub, iN_mul, iN_an, iN_of hx]; exact iN_ti2 (by omega) (by omega)) (by omega) n1 he
      · refine z_iload_n G dX10_walk_76 rfl ?_
        refine z_iconst G (v := 1) dX10_walk_77 (by decide) ?_
        refine z_iadd G dX10_walk_78 ?_
        refine z_goto G 84 dX10_walk_79 (by decide) ?_
        refine z_iadd G dX10_walk_84 ?_
        have hlt : ¬ c ≤ jn := by simp (disch := omega) only [iN_lit, iN_add, iN_sub, iN_mul, iN_an, iN_le, iN_lt, iN_eq, iN_of hj] at b73; exact b73
        refine z_iald G (5 + 5 * q + min jn (c - 1)) dX10_walk_85 (by assumption) (by simp (disch := omega) only [iN_lit, iN_add, iN_sub, iN_mul, iN_an, iN_of hj]; exact iN_ti2 (by omega) (by omega)) (by omega) ?_
        rw [c4]
        refine z_istore_n G dX10_walk_86 (Nat.le_of_ble_eq_true rfl) rfl ?_
        refine z_iinc G (v := 1) dX10_walk_87 (by decide) rfl rfl ?_
        refine z_goto G 43 dX10_walk_90 (by decide) ?_
        exact ih (nextP (I (m + 6)) jn q) (y + 1) _ _ (by simp (disch := omega) only [iN_lit, iN_add, iN_sub, iN_mul, iN_an, iN_of hx]; exact iN_ti2 (by omega) (by omega)) (by omega) n1 he
  refine z_aload_n G dX10_walk_0 rfl ?_
  refine z_V G lk_X10_179 dX10_walk_1 [] rfl rfl rfl (Nat.le_of_ble_eq_true rfl) ⟨Nat.le_refl _, Nat.le_refl _⟩ (by assumption) ?_
  refine k_X10_isWeb hM v1.1 (fun _ => ?_) (fun q => absurd q (by omega))
  refine z_if_ne G 10 dX10_walk_4 (by decide) (fun _ => ?_) (fun c => absurd c (by decide))
  refine z_iload_n G dX10_walk_10 rfl ?_
  refine z_iconst G (v := 0) dX10_walk_11 (by decide) ?_
  refine z_bipush G (v := 60) dX10_walk_12 (by decide) ?_
  refine z_S G lk_X10_62 dX10_walk_14 [_, _, _] rfl rfl rfl (Nat.le_of_ble_eq_true rfl) ⟨Nat.le_refl _, Nat.le_refl _⟩ ?_
  refine k_X10_in ?_ ?_
  · intro hin
    refine z_if_eq G 29 dX10_walk_17 (by decide) (fun c => absurd c (by decide)) (fun _ => ?_)
    refine z_iload_n G dX10_walk_20 rfl ?_
    refine z_iconst G (v := 0) dX10_walk_21 (by decide) ?_
    refine z_iconst G (v := 2) dX10_walk_22 (by decide) ?_
    refine z_S G lk_X10_62 dX10_walk_23 [_, _, _] rfl rfl rfl (Nat.le_of_ble_eq_true rfl) ⟨Nat.le_refl _, Nat.le_refl _⟩ ?_
    refine k_X10_in ?_ ?_
    · intro hin2
      refine z_if_ne G 32 dX10_walk_26 (by decide) (fun _ => ?_) (fun c => absurd c (by decide))
      obtain ⟨k, hk1, hk2⟩ : ∃ k : Nat, nn.toInt = (k : Int) ∧ k ≤ 60 := ⟨nn.toInt.toNat, by simp only [ti_lt, ti_le, Int32.reduceToInt] at hin; omega, by simp only [ti_lt, ti_le, Int32.reduceToInt] at hin; omega⟩
      obtain ⟨jn, hj, hj3⟩ : ∃ jn : Nat, j.toInt = (jn : Int) ∧ jn < 3 := ⟨j.toInt.toNat, by simp only [ti_lt, ti_le, Int32.reduceToInt] at hin2; omega, by simp only [ti_lt, ti_le, Int32.reduceToInt] at hin2; omega⟩
      refine z_aload_n G dX10_walk_32 rfl ?_
      refine z_getR G fl_X10_25 rfl dX10_walk_33 (by assumption) (by assumption) ?_
      refine z_S G lk_X10_157 dX10_walk_36 [_] rfl rfl rfl (Nat.le_of_ble_eq_true rfl) ⟨Nat.le_refl _, Nat.le_refl _⟩ ?_
      refine k_X10_seen s6 hN ?_
      rw [iN_of hN.2.2.2.2.1]
      refine z_istore_n G dX10_walk_39 (Nat.le_of_ble_eq_true rfl) rfl ?_
      refine z_iconst G (v := 0) dX10_walk_40 (by decide) ?_
      refine z_istore G dX10_walk_41 (Nat.le_of_ble_eq_true rfl) rfl ?_
      exact loop k jn hk1 hk2 hj hj3 k p 0 0 _ rfl (by omega) hpn rfl
    · intro hin2
      refine z_if_ne G 32 dX10_walk_26 (by decide) (fun c => absurd c (by decide)) (fun _ => ?_)
      refine z_ldc G ct_X10_70 dX10_walk_29 ?_
      exact z_iret G hq dX10_walk_31 (hb (fun ⟨k, jn, _, _, q1, q2⟩ => hin2 (by simp only [ti_lt, ti_le, Int32.reduceToInt]; omega)))
  · intro hin
    refine z_if_eq G 29 dX10_walk_17 (by decide) (fun _ => ?_) (fun c => absurd c (by decide))
    refine z_ldc G ct_X10_70 dX10_walk_29 ?_
    exact z_iret G hq dX10_walk_31 (hb (fun ⟨k, jn, q1, q2, _⟩ => hin (by simp only [ti_lt, ti_le, Int32.reduceToInt]; omega)))
set_option maxHeartbeats 1000000 in
set_option maxRecDepth 20000 in
theorem k_X9_page {E : pmE} {d : Nat} {S : pmS} {I : pmI} {P : pmP} {R : Option Value → pmS → pmI → pmP → Prop} (hX : XG S P) {n T c : Nat} {w : Nat → Int32} (hD : DR I P 30 w T c) (hW : WR I 27 w n) (hn : (w 0).toInt = (n : Int)) (hn8 : n ≤ 8) (hv : VL w n) {page what : Int32} (hb : (¬ ∃ q k : Nat, page.toInt = (q : Int) ∧ q < n ∧ what.toInt = (k : Int) ∧ k ≤ 4) → R (some (.int (-1000001))) S I P) (h1 : ∀ q k : Nat, page.toInt = (q : Int) → q < n → what.toInt = (k : Int) → k ≤ 4 → (k = 0 ∨ k = 4 ∨ ¬ w (4 + 5 * q) < what) → R (some (.int (w (4 + 5 * q + k)))) S I P) (h0 : ∀ q k : Nat, page.toInt = (q : Int) → q < n → what.toInt = (k : Int) → k ≤ 4 → ¬ (k = 0 ∨ k = 4 ∨ ¬ w (4 + 5 * q) < what) → R (some (.int (-1000000))) S I P) : pmX E (d + 3) 0 0 yX9_page [rr E 0, .int page, .int what] S I P R := by
  refine pm_of (by decide) cd_X9_page (by decide) (by decide) (Nat.le_of_ble_eq_true rfl) ?_
  intro C G hq
  obtain ⟨⟨a0, a1, a2, a3, a4, a5, a6, a7, a8⟩, hRG, hRdG, hWG, hDG, ⟨z1, z2, z3, z4⟩, hIG, hFG, hAG⟩ := id hX
  refine z_aload_n G dX9_page_0 rfl ?_
  refine z_getR G fl_X9_25 rfl dX9_page_1 (by assumption) (by assumption) ?_
  refine z_iload_n G dX9_page_4 rfl ?_
  refine z_V G lk_X9_179 dX9_page_5 [_] rfl rfl rfl (Nat.le_of_ble_eq_true rfl) ⟨Nat.le_refl _, Nat.le_refl _⟩ hWG.1 ?_
  refine k_X8_hasPage hWG.1 (by rw [hW.1]; exact hn) ?_ ?_
  · intro q hq1 hq2
    refine z_if_eq G 20 dX9_page_8 (by decide) (fun c => absurd c (by decide)) (fun _ => ?_)
    refine z_iload_n G dX9_page_11 rfl ?_
    refine z_if_lt G 20 dX9_page_12 (by decide) (fun b12 => ?_) (fun b12 => ?_)
    · refine z_ldc G ct_X9_73 dX9_page_20 ?_
      exact z_iret G hq dX9_page_22 (hb (fun ⟨q, k, _, _, q1, q2⟩ => by simp only [ti_lt, ti_le, Int32.reduceToInt] at *; omega))
    · refine z_iload_n G dX9_page_15 rfl ?_
      refine z_iconst G (v := 4) dX9_page_16 (by decide) ?_
      refine z_icmp_le G 23 dX9_page_17 (by decide) (fun b17 => ?_) (fun b17 => ?_)
      · obtain ⟨k, hk1, hk2⟩ : ∃ k : Nat, what.toInt = (k : Int) ∧ k ≤ 4 := ⟨what.toInt.toNat, by simp only [ti_lt, ti_le, Int32.reduceToInt] at *; omega, by simp only [ti_lt, ti_le, Int32.reduceToInt] at *; omega⟩
        obtain ⟨c9, c1, c2, c3, c4⟩ := hv q hq2
        refine z_iload_n G dX9_page_23 rfl ?_
        refine z_if_ne G 36 dX9_page_24 (by decide) (fun b24 => ?_) (fun b24 => ?_)
        · have hk0 : ¬ k = 0 := fun z => b24 (by rw [iN_of hk1, z]; rfl)
          refine z_iload_n G dX9_page_36 rfl ?_
          refine z_iconst G (v := 3) dX9_page_37 (by decide) ?_
          refine z_icmp_gt G 55 dX9_page_38 (by decide) (fun b38 => ?_) (fun b38 => ?_)
          · have hk4 : k = 4 := by simp only [ti_lt, ti_le, Int32.reduceToInt, hk1] at b38; omega
            refine z_aload_n G dX9_page_55 rfl ?_
            refine z_getR G fl_X9_32 rfl dX9_page_56 (by assumption) (by assumption) ?_
            refine z_getR G fl_X9_222 rfl dX9_page_59 hDG.1.1 hDG.1.2.2.2.1 ?_
            refine z_iload_n G dX9_page_62 rfl ?_
            refine z_iald G (q) dX9_page_63 hDG.1.2.2.2.2.2.2 (hq1) (by omega) ?_
            exact z_iret G hq dX9_page_64 (by rw [hD.2.2.2.2.2 q (by omega)]; have := h1 q k hq1 hq2 hk1 hk2 (Or.inr (Or.inl hk4)); rw [show 4 + 5 * q + k = 8 + 5 * q by omega] at this; exact this)
          · have hk3 : k ≤ 3 := by simp only [ti_lt, ti_le, Int32.reduceToInt, hk1] at b38; omega
            refine z_aload_n G dX9_page_41 rfl ?_
            refine z_getR G fl_X9_25 rfl dX9_page_42 (by assumption) (by assumption) ?_
            refine z_iload_n G dX9_page_45 rfl ?_
            refine z_iload_n G dX9_page_46 rfl ?_
            refine z_iconst G (v := 1) dX9_page_47 (by decide) ?_
            refine z_isub G dX9_page_48 ?_
            refine z_top (y := iN (k - 1)) (by simp (disch := omega) only [iN_lit, iN_add, iN_sub, iN_mul, iN_an, iN_of hk1] <;> exact congrArg iN (by omega)) ?_
            refine z_V G lk_X9_219 dX9_page_49 [_, _] rfl rfl rfl (Nat.le_of_ble_eq_true rfl) ⟨Nat.le_refl _, Nat.le_refl _⟩ hWG.1 ?_
            refine k_X8_target hWG hW hn hn8 hq1 hq2 c1 c3 ?_ ?_
            · intro j2 e1 e2
              refine z_goto G 64 dX9_page_52 (by decide) ?_
              exact z_iret G hq dX9_page_64 (by rw [iN_ti (by omega)] at e1; have := h1 q k hq1 hq2 hk1 hk2 (Or.inr (Or.inr (by simp only [ti_lt, c1, hk1]; omega))); rw [show 4 + 5 * q + k = 5 + 5 * q + j2 by omega] at this; exact this)
            · intro hno
              refine z_goto G 64 dX9_page_52 (by decide) ?_
              exact z_iret G hq dX9_page_64 (h0 q k hq1 hq2 hk1 hk2 (fun z => Or.elim z hk0 (fun z => Or.elim z (fun z => by omega) (fun z => hno (by rw [iN_ti (by omega)]; simp only [ti_lt, c1, hk1] at z; omega)))))
        · refine z_aload_n G dX9_page_27 rfl ?_
          refine z_getR G fl_X9_25 rfl dX9_page_28 (by assumption) (by assumption) ?_
          refine z_iload_n G dX9_page_31 rfl ?_
          refine z_V G lk_X9_216 dX9_page_32 [_] rfl rfl rfl (Nat.le_of_ble_eq_true rfl) ⟨Nat.le_refl _, Nat.le_refl _⟩ hWG.1 ?_
          refine k_X8_linksOf hWG hW hn hn8 hq1 hq2 ?_
          exact z_iret G hq dX9_page_35 (by have hk0 : k = 0 := (by have := congrArg Int32.toInt b24; rw [hk1] at this; simp only [Int32.reduceToInt] at this; omega); have := h1 q k hq1 hq2 hk1 hk2 (Or.inl hk0); rw [hk0] at this; exact this)
      · refine z_ldc G ct_X9_73 dX9_page_20 ?_
        exact z_iret G hq dX9_page_22 (hb (fun ⟨q, k, _, _, q1, q2⟩ => by simp only [ti_lt, ti_le, Int32.reduceToInt] at *; omega))
  · intro hno
    refine z_if_eq G 20 dX9_page_8 (by decide) (fun _ => ?_) (fun c => absurd c (by decide))
    refine z_ldc G ct_X9_73 dX9_page_20 ?_
    exact z_iret G hq dX9_page_22 (hb (fun ⟨q, k, q1, q2, _⟩ => hno ⟨q, q1, q2⟩))
