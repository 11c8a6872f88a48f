set_option maxHeartbeats 1000000 in
set_option maxRecDepth 20000 in
theorem k_X9_rowsThere {E : pmE} {d : Nat} {S : pmS} {I : pmI} {P : pmP} {R : Option Value → pmS → pmI → pmP → Prop} (hX : XG S P) (h : R (some (.int (cntR (fun k => ¬ I (596 + 2 * k) 1 = 0) 8))) S I P) : pmX E d 0 0 yX9_rowsThere [rr E 0] S I P R := by
  refine pm_of (by decide) cd_X9_rowsThere (by decide) (by decide) (Nat.le_of_ble_eq_true rfl) ?_
  intro C G hq
  obtain ⟨⟨a0, a1, a2, a3, a4, a5, a6, a7, a8⟩, hRG, hRdG, hWG, hDG, ⟨z1, z2, z3, z4⟩, hIG, hFG, hAG⟩ := id hX
  obtain ⟨rg1, rg2⟩ := id hRG
  have RGk : ∀ k, k < 8 → RowG S P (596 + 2 * k) := fun k hk => by obtain ⟨q1, q2, q3, q4⟩ := rg2 k hk; exact ⟨q2, by rw [show 596 + 2 * k + 1 = 597 + 2 * k by omega]; exact q3, by rw [show 596 + 2 * k + 1 = 597 + 2 * k by omega]; exact q4⟩
  have loop : ∀ (r k : Nat) (x : Int32), x.toInt = (k : Int) → k + r = 8 → pmZ E C 4 [some (rr E 0), some (.int (cntR (fun k => ¬ I (596 + 2 * k) 1 = 0) k)), some (.int x)] [] S I P 0 0 := by
    intro r
    induction r with
    | zero =>
      intro k x hx hr
      obtain rfl : k = 8 := by omega
      refine z_iload_n G dX9_rowsThere_4 rfl ?_
      refine z_aload_n G dX9_rowsThere_5 rfl ?_
      refine z_getR G fl_X9_11 rfl dX9_rowsThere_6 (by assumption) (by assumption) ?_
      refine z_alen G 4 (v := 8) rfl (by decide) dX9_rowsThere_9 rg1 (by decide) ?_
      refine z_icmp_ge G 34 dX9_rowsThere_10 (by decide) (fun _ => ?_) (fun c => absurd c (fun z => z (by simp (disch := omega) only [iN_lit, iN_add, iN_sub, iN_mul, iN_an, iN_le, iN_lt, iN_eq, iN_of hx] <;> omega)))
      refine z_iload_n G dX9_rowsThere_34 rfl ?_
      exact z_iret G hq dX9_rowsThere_35 (h)
    | succ r ih =>
      intro k x hx hr
      refine z_iload_n G dX9_rowsThere_4 rfl ?_
      refine z_aload_n G dX9_rowsThere_5 rfl ?_
      refine z_getR G fl_X9_11 rfl dX9_rowsThere_6 (by assumption) (by assumption) ?_
      refine z_alen G 4 (v := 8) rfl (by decide) dX9_rowsThere_9 rg1 (by decide) ?_
      refine z_icmp_ge G 34 dX9_rowsThere_10 (by decide) (fun c => absurd c (by simp (disch := omega) only [iN_lit, iN_add, iN_sub, iN_mul, iN_an, iN_le, iN_lt, iN_eq, iN_of hx]; omega)) (fun _ => ?_)
      refine z_aload_n G dX9_rowsThere_13 rfl ?_
      refine z_getR G fl_X9_11 rfl dX9_rowsThere_14 (by assumption) (by assumption) ?_
      refine z_iload_n G dX9_rowsThere_17 rfl ?_
      refine z_aald G 4 (k) rfl (by decide) dX9_rowsThere_18 rg1 (hx) (by omega) (rg2 k (by omega)).1 ?_
      refine z_getI G fl_X9_82 rfl dX9_rowsThere_19 (RGk k (by omega)).1 ?_
      refine z_if_eq G 28 dX9_rowsThere_22 (by decide) (fun b22 => ?_) (fun b22 => ?_)
      · refine z_iinc G (v := 1) dX9_rowsThere_28 (by decide) rfl rfl ?_
        refine z_goto G 4 dX9_rowsThere_31 (by decide) ?_
        refine z_eq rfl ?_ rfl rfl rfl (ih (k + 1) (x + 1) (by simp (disch := omega) only [iN_lit, iN_add, iN_sub, iN_mul, iN_an, iN_of hx]; exact iN_ti2 (by omega) (by omega)) (by omega))
        show _ = [some (rr E 0), some (.int (cntR (fun k => ¬ I (596 + 2 * k) 1 = 0) k + (if ¬ I (596 + 2 * k) 1 = 0 then 1 else 0))), some (.int (x + 1))]
        rw [if_neg (fun z => z b22), Int32.add_zero]
        rfl
      · refine z_iinc G (v := 1) dX9_rowsThere_25 (by decide) rfl rfl ?_
        refine z_iinc G (v := 1) dX9_rowsThere_28 (by decide) rfl rfl ?_
        refine z_goto G 4 dX9_rowsThere_31 (by decide) ?_
        refine z_eq rfl ?_ rfl rfl rfl (ih (k + 1) (x + 1) (by simp (disch := omega) only [iN_lit, iN_add, iN_sub, iN_mul, iN_an, iN_of hx]; exact iN_ti2 (by omega) (by omega)) (by omega))
        show _ = [some (rr E 0), some (.int (cntR (fun k => ¬ I (596 + 2 * k) 1 = 0) k + (if ¬ I (596 + 2 * k) 1 = 0 then 1 else 0))), some (.int (x + 1))]
        rw [if_pos b22]
        rfl
  refine z_iconst G (v := 0) dX9_rowsThere_0 (by decide) ?_
  refine z_istore_n G dX9_rowsThere_1 (Nat.le_of_ble_eq_true rfl) rfl ?_
  refine z_iconst G (v := 0) dX9_rowsThere_2 (by decide) ?_
  refine z_istore_n G dX9_rowsThere_3 (Nat.le_of_ble_eq_true rfl) rfl ?_
  exact loop 8 0 0 rfl rfl
set_option maxHeartbeats 1000000 in
set_option maxRecDepth 20000 in
theorem k_X9_count {E : pmE} {d : Nat} {S : pmS} {I : pmI} {P : pmP} {R : Option Value → pmS → pmI → pmP → Prop} (hX : XG S P) {w : Nat → Int32} {pg what : Int32} (hvis : ∀ p, p < 8 → I 33 p = w (8 + 5 * p)) (hsp : ∀ R' : Option Value → pmS → pmI → pmP → Prop, R' (some (.int pg)) S I P → pmX E (d + 1) 0 0 yX1_shownPage [rr E 30] S I P R') (h0 : what = 0 → R (some (.int (cntR (fun k => ¬ I (596 + 2 * k) 1 = 0) 8))) S I P) (h1 : what = 1 → R (some (.int (I 27 2))) S I P) (h2 : what = 2 → R (some (.int (I 30 3))) S I P) (h3 : what = 3 → R (some (.int (I 30 4))) S I P) (h4 : what = 4 → R (some (.int (pg))) S I P) (h5 : what = 5 → R (some (.int (I 30 5))) S I P) (h6 : what = 6 → R (some (.int (sumV w 8))) S I P) (h7 : what = 7 → R (some (.int (I 50 2))) S I P) (h8 : what = 8 → R (some (.int (I 2 3))) S I P) (hb : (what.toInt < 0 ∨ 8 < what.toInt) → R (some (.int (-1000001))) S I P) : pmX E (d + 2) 0 0 yX9_count [rr E 0, .int what] S I P R := by
  refine pm_of (by decide) cd_X9_count (by decide) (by decide) (Nat.le_of_ble_eq_true rfl) ?_
  intro C G hq
  obtain ⟨⟨a0, a1, a2, a3, a4, a5, a6, a7, a8⟩, hRG, hRdG, hWG, hDG, ⟨z1, z2, z3, z4⟩, hIG, hFG, hAG⟩ := id hX
  refine z_iload_n G dX9_count_0 rfl ?_
  have hsw : (what.toInt < 0 ∨ 8 < what.toInt) ∨ what = 0 ∨ what = 1 ∨ what = 2 ∨ what = 3 ∨ what = 4 ∨ what = 5 ∨ what = 6 ∨ what = 7 ∨ what = 8 := by simp only [ti_eq, Int32.reduceToInt]; omega
  rcases hsw with e | e | e | e | e | e | e | e | e | e
  · refine z_tout G 121 dX9_count_1 e (by decide) ?_
    refine z_ldc G ct_X9_73 dX9_count_121 ?_
    exact z_iret G hq dX9_count_123 (hb e)
  · refine z_tin G 52 dX9_count_1 (by rw [e]; decide) (by rw [e]; decide) (by rw [e]; rfl) (by decide) ?_
    refine z_aload_n G dX9_count_52 rfl ?_
    refine z_V G lk_X9_309 dX9_count_53 [] rfl rfl rfl (Nat.le_of_ble_eq_true rfl) ⟨Nat.le_refl _, Nat.le_refl _⟩ (by assumption) ?_
    refine k_X9_rowsThere hX ?_
    exact z_iret G hq dX9_count_56 (h0 e)
  · refine z_tin G 57 dX9_count_1 (by rw [e]; decide) (by rw [e]; decide) (by rw [e]; rfl) (by decide) ?_
    refine z_aload_n G dX9_count_57 rfl ?_
    refine z_getR G fl_X9_25 rfl dX9_count_58 (by assumption) (by assumption) ?_
    refine z_getI G fl_X9_312 rfl dX9_count_61 hWG.1 ?_
    exact z_iret G hq dX9_count_64 (h1 e)
  · refine z_tin G 65 dX9_count_1 (by rw [e]; decide) (by rw [e]; decide) (by rw [e]; rfl) (by decide) ?_
    refine z_aload_n G dX9_count_65 rfl ?_
    refine z_getR G fl_X9_32 rfl dX9_count_66 (by assumption) (by assumption) ?_
    refine z_getI G fl_X9_136 rfl dX9_count_69 hDG.1.1 ?_
    exact z_iret G hq dX9_count_72 (h2 e)
  · refine z_tin G 73 dX9_count_1 (by rw [e]; decide) (by rw [e]; decide) (by rw [e]; rfl) (by decide) ?_
    refine z_aload_n G dX9_count_73 rfl ?_
    refine z_getR G fl_X9_32 rfl dX9_count_74 (by assumption) (by assumption) ?_
    refine z_getI G fl_X9_173 rfl dX9_count_77 hDG.1.1 ?_
    exact z_iret G hq dX9_count_80 (h3 e)
  · refine z_tin G 81 dX9_count_1 (by rw [e]; decide) (by rw [e]; decide) (by rw [e]; rfl) (by decide) ?_
    refine z_aload_n G dX9_count_81 rfl ?_
    refine z_getR G fl_X9_32 rfl dX9_count_82 (by assumption) (by assumption) ?_
    refine z_V G lk_X9_160 dX9_count_85 [] rfl rfl rfl (Nat.le_of_ble_eq_true rfl) ⟨Nat.le_refl _, Nat.le_refl _⟩ hDG.1.1 ?_
    refine hsp _ ?_
    exact z_iret G hq dX9_count_88 (h4 e)
  · refine z_tin G 89 dX9_count_1 (by rw [e]; decide) (by rw [e]; decide) (by rw [e]; rfl) (by decide) ?_
    refine z_aload_n G dX9_count_89 rfl ?_
    refine z_getR G fl_X9_32 rfl dX9_count_90 (by assumption) (by assumption) ?_
    refine z_getI G fl_X9_313 rfl dX9_count_93 hDG.1.1 ?_
    exact z_iret G hq dX9_count_96 (h5 e)
  · refine z_tin G 97 dX9_count_1 (by rw [e]; decide) (by rw [e]; decide) (by rw [e]; rfl) (by decide) ?_
    refine z_aload_n G dX9_count_97 rfl ?_
    refine z_getR G fl_X9_32 rfl dX9_count_98 (by assumption) (by assumption) ?_
    refine z_V G lk_X9_316 dX9_count_101 [] rfl rfl rfl (Nat.le_of_ble_eq_true rfl) ⟨Nat.le_refl _, Nat.le_refl _⟩ hDG.1.1 ?_
    refine k_X1_allVisits hDG hvis ?_
    exact z_iret G hq dX9_count_104 (h6 e)
  · refine z_tin G 105 dX9_count_1 (by rw [e]; decide) (by rw [e]; decide) (by rw [e]; rfl) (by decide) ?_
    refine z_aload_n G dX9_count_105 rfl ?_
    refine z_getR G fl_X9_39 rfl dX9_count_106 (by assumption) (by assumption) ?_
    refine z_getI G fl_X9_195 rfl dX9_count_109 z1 ?_
    exact z_iret G hq dX9_count_112 (h7 e)
  · refine z_tin G 113 dX9_count_1 (by rw [e]; decide) (by rw [e]; decide) (by rw [e]; rfl) (by decide) ?_
    refine z_aload_n G dX9_count_113 rfl ?_
    refine z_getR G fl_X9_18 rfl dX9_count_114 (by assumption) (by assumption) ?_
    refine z_getI G fl_X9_112 rfl dX9_count_117 hRdG.1 ?_
    exact z_iret G hq dX9_count_120 (h8 e)
set_option maxHeartbeats 1000000 in
set_option maxRecDepth 20000 in
theorem k_X10_count {E : pmE} {d : Nat} {S : pmS} {I : pmI} {P : pmP} {R : Option Value → pmS → pmI → pmP → Prop} {m : Nat} (hM : MG S P m) {n : Nat} {pg what : Int32} (hn : (I (m + 6) 0).toInt = (n : Int)) (hn8 : n ≤ 8) (hpg : (0 < n ∧ ∃ t s p, Nw (I (m + 6)) t s p ∧ pg = I (m + 6) (48 + 10 * t + s)) ∨ (¬ 0 < n ∧ pg = 0)) (h0 : what = 0 → R (some (.int (cntR (fun k => ¬ I (m + 1) k = -1000000) 8))) S I P) (h1 : what = 1 → R (some (.int (I (m + 6) 0))) S I P) (h2 : what = 2 → R (some (.int (I (m + 6) 1))) S I P) (h3 : what = 3 → R (some (.int (I (m + 6) 2))) S I P) (h4 : what = 4 → R (some (.int (pg))) S I P) (h5 : what = 5 → R (some (.int (I (m + 6) 3))) S I P) (h6 : what = 6 → R (some (.int (sumV (I (m + 6)) n))) S I P) (h7 : what = 7 → R (some (.int (I m 17))) S I P) (h8 : what = 8 → R (some (.int (I m 6))) S I P) (hb : (what.toInt < 0 ∨ 8 < what.toInt) → R (some (.int (-1000001))) S I P) : pmX E (d + 2) 0 0 yX10_count [rr E m, .int what] S I P R := by
  refine pm_of (by decide) cd_X10_count (by decide) (by decide) (Nat.le_of_ble_eq_true rfl) ?_
  intro C G hq
  obtain ⟨g0, ⟨r0, r1, r2, r3, r4, r5, r6, r7, r8, r9, r10, r11, r12, r13, r14⟩, ⟨s1, s2, s3, s4, s5, s6, s7, s8, s9, s10, s11, s12, s13, s14, s15⟩⟩ := id hM
  have loop : what = 0 → ∀ (r k : Nat) (x : Int32), x.toInt = (k : Int) → k + r = 8 → pmZ E C 54 [some (rr E m), some (.int what), some (.int (cntR (fun k => ¬ I (m + 1) k = -1000000) k)), some (.int x)] [] S I P 0 0 := by
    intro e r
    induction r with
    | zero =>
      intro k x hx hr
      obtain rfl : k = 8 := by omega
      refine z_iload_n G dX10_count_54 rfl ?_
      refine z_bipush G (v := 8) dX10_count_55 (by decide) ?_
      refine z_icmp_ge G 82 dX10_count_57 (by decide) (fun _ => ?_) (fun c => absurd c (fun z => z (by simp (disch := omega) only [iN_lit, iN_add, iN_sub, iN_mul, iN_an, iN_le, iN_lt, iN_eq, iN_of hx] <;> omega)))
      refine z_iload_n G dX10_count_82 rfl ?_
      exact z_iret G hq dX10_count_83 (h0 e)
    | succ r ih =>
      intro k x hx hr
      refine z_iload_n G dX10_count_54 rfl ?_
      refine z_bipush G (v := 8) dX10_count_55 (by decide) ?_
      refine z_icmp_ge G 82 dX10_count_57 (by decide) (fun c => absurd c (by simp (disch := omega) only [iN_lit, iN_add, iN_sub, iN_mul, iN_an, iN_le, iN_lt, iN_eq, iN_of hx]; omega)) (fun _ => ?_)
      refine z_iload_n G dX10_count_60 rfl ?_
      refine z_aload_n G dX10_count_61 rfl ?_
      refine z_iload_n G dX10_count_62 rfl ?_
      refine z_V G lk_X10_78 dX10_count_63 [_] rfl rfl rfl (Nat.le_of_ble_eq_true rfl) ⟨Nat.le_refl _, Nat.le_refl _⟩ (by assumption) ?_
      refine k_X10_isMissing hM hx (by omega) ?_ ?_
      · intro hmi
        refine z_if_eq G 73 dX10_count_66 (by decide) (fun c => absurd c (by decide)) (fun _ => ?_)
        refine z_iconst G (v := 0) dX10_count_69 (by decide) ?_
        refine z_goto G 74 dX10_count_70 (by decide) ?_
        refine z_iadd G dX10_count_74 ?_
        refine z_istore_n G dX10_count_75 (Nat.le_of_ble_eq_true rfl) rfl ?_
        refine z_iinc G (v := 1) dX10_count_76 (by decide) rfl rfl ?_
        refine z_goto G 54 dX10_count_79 (by decide) ?_
        refine z_eq rfl ?_ rfl rfl rfl (ih (k + 1) (x + 1) (by simp (disch := omega) only [iN_lit, iN_add, iN_sub, iN_mul, iN_an, iN_of hx]; exact iN_ti2 (by omega) (by omega)) (by omega))
        show _ = [some (rr E m), some (.int what), some (.int (cntR (fun k => ¬ I (m + 1) k = -1000000) k + (if ¬ I (m + 1) k = -1000000 then 1 else 0))), some (.int (x + 1))]
        rw [if_neg (fun z => z hmi)]
        rfl
      · intro hmi
        refine z_if_eq G 73 dX10_count_66 (by decide) (fun _ => ?_) (fun c => absurd c (by decide))
        refine z_iconst G (v := 1) dX10_count_73 (by decide) ?_
        refine z_iadd G dX10_count_74 ?_
        refine z_istore_n G dX10_count_75 (Nat.le_of_ble_eq_true rfl) rfl ?_
        refine z_iinc G (v := 1) dX10_count_76 (by decide) rfl rfl ?_
        refine z_goto G 54 dX10_count_79 (by decide) ?_
        refine z_eq rfl ?_ rfl rfl rfl (ih (k + 1) (x + 1) (by simp (disch := omega) only [iN_lit, iN_add, iN_sub, iN_mul, iN_an, iN_of hx]; exact iN_ti2 (by omega) (by omega)) (by omega))
        show _ = [some (rr E m), some (.int what), some (.int (cntR (fun k => ¬ I (m + 1) k = -1000000) k + (if ¬ I (m + 1) k = -1000000 then 1 else 0))), some (.int (x + 1))]
        rw [if_pos hmi]
        rfl
  refine z_iconst G (v := 0) dX10_count_0 (by decide) ?_
  refine z_istore_n G dX10_count_1 (Nat.le_of_ble_eq_true rfl) rfl ?_
  refine z_iload_n G dX10_count_2 rfl ?_
  have hsw : (what.toInt < 0 ∨ 8 < what.toInt) ∨ what = 0 ∨ what = 1 ∨ what = 2 ∨ what = 3 ∨ what = 4 ∨ what = 5 ∨ what = 6 ∨ what = 7 ∨ what = 8 := by simp only [ti_eq, Int32.reduceToInt]; omega
  rcases hsw with e | e | e | e | e | e | e | e | e | e
  · refine z_tout G 149 dX10_count_3 e (by decide) ?_
    refine z_ldc G ct_X10_70 dX10_count_149 ?_
    exact z_iret G hq dX10_count_151 (hb e)
  · refine z_tin G 52 dX10_count_3 (by rw [e]; decide) (by rw [e]; decide) (by rw [e]; rfl) (by decide) ?_
    refine z_iconst G (v := 0) dX10_count_52 (by decide) ?_
    refine z_istore_n G dX10_count_53 (Nat.le_of_ble_eq_true rfl) rfl ?_
    exact loop e 8 0 0 rfl rfl
  · refine z_tin G 84 dX10_count_3 (by rw [e]; decide) (by rw [e]; decide) (by rw [e]; rfl) (by decide) ?_
    refine z_aload_n G dX10_count_84 rfl ?_
    refine z_getR G fl_X10_25 rfl dX10_count_85 (by assumption) (by assumption) ?_
    refine z_iconst G (v := 0) dX10_count_88 (by decide) ?_
    refine z_iald G (0) dX10_count_89 (by assumption) (rfl) (by omega) ?_
    exact z_iret G hq dX10_count_90 (h1 e)
  · refine z_tin G 91 dX10_count_3 (by rw [e]; decide) (by rw [e]; decide) (by rw [e]; rfl) (by decide) ?_
    refine z_aload_n G dX10_count_91 rfl ?_
    refine z_getR G fl_X10_25 rfl dX10_count_92 (by assumption) (by assumption) ?_
    refine z_iconst G (v := 1) dX10_count_95 (by decide) ?_
    refine z_iald G (1) dX10_count_96 (by assumption) (rfl) (by omega) ?_
    exact z_iret G hq dX10_count_97 (h2 e)
  · refine z_tin G 98 dX10_count_3 (by rw [e]; decide) (by rw [e]; decide) (by rw [e]; rfl) (by decide) ?_
    refine z_aload_n G dX10_count_98 rfl ?_
    refine z_getR G fl_X10_25 rfl dX10_count_99 (by assumption) (by assumption) ?_
    refine z_iconst G (v := 2) dX10_count_102 (by decide) ?_
    refine z_iald G (2) dX10_count_103 (by assumption) (rfl) (by omega) ?_
    exact z_iret G hq dX10_count_104 (h3 e)
  · refine z_tin G 105 dX10_count_3 (by rw [e]; decide) (by rw [e]; decide) (by rw [e]; rfl) (by decide) ?_
    refine z_aload_n G dX10_count_105 rfl ?_
    refine z_V G lk_X10_179 dX10_count_106 [] rfl rfl rfl (Nat.le_of_ble_eq_true rfl) ⟨Nat.le_refl _, Nat.le_refl _⟩ (by assumption) ?_
    refine k_X10_isWeb hM hn ?_ ?_
    · intro hw
      refine z_if_eq G 122 dX10_count_109 (by decide) (fun c => absurd c (by decide)) (fun _ => ?_)
      refine z_aload_n G dX10_count_112 rfl ?_
      refine z_getR G fl_X10_25 rfl dX10_count_113 (by assumption) (by assumption) ?_
      obtain ⟨t, s, p, hN, hpe⟩ := (hpg.resolve_right (fun z => z.1 hw)).2
      refine z_S G lk_X10_157 dX10_count_116 [_] rfl rfl rfl (Nat.le_of_ble_eq_true rfl) ⟨Nat.le_refl _, Nat.le_refl _⟩ ?_
      refine k_X10_seen s6 hN ?_
      rw [← hpe]
      refine z_goto G 123 dX10_count_119 (by decide) ?_
      exact z_iret G hq dX10_count_123 (h4 e)
    · intro hw
      refine z_if_eq G 122 dX10_count_109 (by decide) (fun _ => ?_) (fun c => absurd c (by decide))
      have hp0 := (hpg.resolve_left (fun z => hw z.1)).2
      refine z_iconst G (v := 0) dX10_count_122 (by decide) ?_
      exact z_iret G hq dX10_count_123 (by have := h4 e; rw [hp0] at this; exact this)
  · refine z_tin G 124 dX10_count_3 (by rw [e]; decide) (by rw [e]; decide) (by rw [e]; rfl) (by decide) ?_
    refine z_aload_n G dX10_count_124 rfl ?_
    refine z_getR G fl_X10_25 rfl dX10_count_125 (by assumption) (by assumption) ?_
    refine z_iconst G (v := 3) dX10_count_128 (by decide) ?_
    refine z_iald G (3) dX10_count_129 (by assumption) (rfl) (by omega) ?_
    exact z_iret G hq dX10_count_130 (h5 e)
  · refine z_tin G 131 dX10_count_3 (by rw [e]; decide) (by rw [e]; decide) (by rw [e]; rfl) (by decide) ?_
    refine z_aload_n G dX10_count_131 rfl ?_
    refine z_getR G fl_X10_25 rfl dX10_count_132 (by assumption) (by assumption) ?_
    refine z_S G lk_X10_224 dX10_count_135 [_] rfl rfl rfl (Nat.le_of_ble_eq_true rfl) ⟨Nat.le_refl _, Nat.le_refl _⟩ ?_
    refine k_X10_visitsOf s6 hn hn8 ?_
    exact z_iret G hq dX10_count_138 (h6 e)
  · refine z_tin G 139 dX10_count_3 (by rw [e]; decide) (by rw [e]; decide) (by rw [e]; rfl) (by decide) ?_
    refine z_aload_n G dX10_count_139 rfl ?_
    refine z_getI G fl_X10_150 rfl dX10_count_140 (by assumption) ?_
    exact z_iret G hq dX10_count_143 (h7 e)
  · refine z_tin G 144 dX10_count_3 (by rw [e]; decide) (by rw [e]; decide) (by rw [e]; rfl) (by decide) ?_
    refine z_aload_n G dX10_count_144 rfl ?_
    refine z_getI G fl_X10_88 rfl dX10_count_145 (by assumption) ?_
    exact z_iret G hq dX10_count_148 (h8 e)
set_option maxHeartbeats 1000000 in
set_option maxRecDepth 20000 in
theorem k_X1_shownPage0 {E : pmE} {d : Nat} {S : pmS} {I : pmI} {P : pmP} {R : Option Value → pmS → pmI → pmP → Prop} {w : Nat → Int32} (hX : XG S P) (hD : DR I P 30 w 0 0) (h0w : V0 w) (h : R (some (.int 0)) S I P) : pmX E (d + 1) 0 0 yX1_shownPage [rr E 30] S I P R := by
  refine pm_of (by decide) cd_X1_shownPage (by decide) (by decide) (Nat.le_of_ble_eq_true rfl) ?_
  intro C G hq
  obtain ⟨⟨a0, a1, a2, a3, a4, a5, a6, a7, a8⟩, hRG, hRdG, hWG, hDG, ⟨z1, z2, z3, z4⟩, hIG, hFG, hAG⟩ := id hX
  obtain ⟨e0, e1, e2, e3, e4⟩ := h0w
  obtain ⟨d1, d2, d3, d4, d5, d6⟩ := id hD
  refine z_aload_n G dX1_shownPage_0 rfl ?_
  refine z_aload_n G dX1_shownPage_1 rfl ?_
  refine z_getI G fl_X1_28 rfl dX1_shownPage_2 hDG.1.1 ?_
  refine z_V G lk_X1_45 dX1_shownPage_5 [_] rfl rfl rfl (Nat.le_of_ble_eq_true rfl) ⟨Nat.le_refl _, Nat.le_refl _⟩ hDG.1.1 ?_
  refine k_X1_hasTab hDG.1.1 (T := 0) (by rw [d1, e1]; rfl) (by omega) (fun i _ q => absurd q (by omega)) (fun _ => ?_)
  refine z_if_eq G 26 dX1_shownPage_8 (by decide) (fun _ => ?_) (fun c => absurd c (by decide))
  refine z_iconst G (v := 0) dX1_shownPage_26 (by decide) ?_
  exact z_iret G hq dX1_shownPage_27 (h)
set_option maxHeartbeats 1000000 in
set_option maxRecDepth 20000 in
theorem k_X1_stepBack0 {E : pmE} {d : Nat} {S : pmS} {I : pmI} {P : pmP} {R : Option Value → pmS → pmI → pmP → Prop} {w : Nat → Int32} (hX : XG S P) (hD : DR I P 30 w 0 0) (h0w : V0 w) (h : R (some (.int 0)) S I P) : pmX E (d + 1) 0 0 yX1_stepBack [rr E 30] S I P R := by
  refine pm_of (by decide) cd_X1_stepBack (by decide) (by decide) (Nat.le_of_ble_eq_true rfl) ?_
  intro C G hq
  obtain ⟨⟨a0, a1, a2, a3, a4, a5, a6, a7, a8⟩, hRG, hRdG, hWG, hDG, ⟨z1, z2, z3, z4⟩, hIG, hFG, hAG⟩ := id hX
  obtain ⟨e0, e1, e2, e3, e4⟩ := h0w
  obtain ⟨d1, d2, d3, d4, d5, d6⟩ := id hD
  refine z_aload_n G dX1_stepBack_0 rfl ?_
  refine z_aload_n G dX1_stepBack_1 rfl ?_
  refine z_getI G fl_X1_28 rfl dX1_stepBack_2 hDG.1.1 ?_
  refine z_V G lk_X1_45 dX1_stepBack_5 [_] rfl rfl rfl (Nat.le_of_ble_eq_true rfl) ⟨Nat.le_refl _, Nat.le_refl _⟩ hDG.1.1 ?_
  refine k_X1_hasTab hDG.1.1 (T := 0) (by rw [d1, e1]; rfl) (by omega) (fun i _ q => absurd q (by omega)) (fun _ => ?_)
  refine z_if_eq G 30 dX1_stepBack_8 (by decide) (fun _ => ?_) (fun c => absurd c (by decide))
  refine z_iconst G (v := 0) dX1_stepBack_30 (by decide) ?_
  exact z_zret G hq dX1_stepBack_31 rfl (h)
set_option maxHeartbeats 1000000 in
set_option maxRecDepth 20000 in
theorem k_X1_stepForward0 {E : pmE} {d : Nat} {S : pmS} {I : pmI} {P : pmP} {R : Option Value → pmS → pmI → pmP → Prop} {w : Nat → Int32} (hX : XG S P) (hD : DR I P 30 w 0 0) (h0w : V0 w) (h : R (some (.int 0)) S I P) : pmX E (d + 1) 0 0 yX1_stepForward [rr E 30] S I P R := by
  refine pm_of (by decide) cd_X1_stepForward (by decide) (by decide) (Nat.le_of_ble_eq_true rfl) ?_
  intro C G hq
  obtain ⟨⟨a0, a1, a2, a3, a4, a5, a6, a7, a8⟩, hRG, hRdG, hWG, hDG, ⟨z1, z2, z3, z4⟩, hIG, hFG, hAG⟩ := id hX
  obtain ⟨e0, e1, e2, e3, e4⟩ := h0w
  obtain ⟨d1, d2, d3, d4, d5, d6⟩ := id hD
  refine z_aload_n G dX1_stepForward_0 rfl ?_
  refine z_aload_n G dX1_stepForward_1 rfl ?_
  refine z_getI G fl_X1_28 rfl dX1_stepForward_2 hDG.1.1 ?_
  refine z_V G lk_X1_45 dX1_stepForward_5 [_] rfl rfl rfl (Nat.le_of_ble_eq_true rfl) ⟨Nat.le_refl _, Nat.le_refl _⟩ hDG.1.1 ?_
  refine k_X1_hasTab hDG.1.1 (T := 0) (by rw [d1, e1]; rfl) (by omega) (fun i _ q => absurd q (by omega)) (fun _ => ?_)
  refine z_if_eq G 30 dX1_stepForward_8 (by decide) (fun _ => ?_) (fun c => absurd c (by decide))
  refine z_iconst G (v := 0) dX1_stepForward_30 (by decide) ?_
  exact z_zret G hq dX1_stepForward_31 rfl (h)
set_option maxHeartbeats 1000000 in
set_option maxRecDepth 20000 in
theorem k_X1_closeNow0 {E : pmE} {d : Nat} {S : pmS} {I : pmI} {P : pmP} {R : Option Value → pmS → pmI → pmP → Prop} {w : Nat → Int32} (hX : XG S P) (hD : DR I P 30 w 0 0) (h0w : V0 w) (h : R (some (.int 0)) S I P) : pmX E (d + 1) 0 0 yX1_closeNow [rr E 30] S I P R := by
  refine pm_of (by decide) cd_X1_closeNow (by decide) (by decide) (Nat.le_of_ble_eq_true rfl) ?_
  intro C G hq
  obtain ⟨⟨a0, a1, a2, a3, a4, a5, a6, a7, a8⟩, hRG, hRdG, hWG, hDG, ⟨z1, z2, z3, z4⟩, hIG, hFG, hAG⟩ := id hX
  obtain ⟨e0, e1, e2, e3, e4⟩ := h0w
  obtain ⟨d1, d2, d3, d4, d5, d6⟩ := id hD
  refine z_aload_n G dX1_closeNow_0 rfl ?_
  refine z_getI G fl_X1_24 rfl dX1_closeNow_1 hDG.1.1 ?_
  rw [d1, e1]
  refine z_iconst G (v := 2) dX1_closeNow_4 (by decide) ?_
  refine z_icmp_lt G 19 dX1_closeNow_5 (by decide) (fun _ => ?_) (fun c => absurd c (by decide))
  refine z_iconst G (v := 0) dX1_closeNow_19 (by decide) ?_
  exact z_zret G hq dX1_closeNow_20 rfl (h)
set_option maxHeartbeats 1000000 in
set_option maxRecDepth 20000 in
theorem k_X1_reopen0 {E : pmE} {d : Nat} {S : pmS} {I : pmI} {P : pmP} {R : Option Value → pmS → pmI → pmP → Prop} {w : Nat → Int32} (hX : XG S P) (hD : DR I P 30 w 0 0) (h0w : V0 w) (h : R (some (.int 0)) S I P) : pmX E (d + 1) 0 0 yX1_reopen [rr E 30] S I P R := by
  refine pm_of (by decide) cd_X1_reopen (by decide) (by decide) (Nat.le_of_ble_eq_true rfl) ?_
  intro C G hq
  obtain ⟨⟨a0, a1, a2, a3, a4, a5, a6, a7, a8⟩, hRG, hRdG, hWG, hDG, ⟨z1, z2, z3, z4⟩, hIG, hFG, hAG⟩ := id hX
  obtain ⟨e0, e1, e2, e3, e4⟩ := h0w
  obtain ⟨d1, d2, d3, d4, d5, d6⟩ := id hD
  refine z_aload_n G dX1_reopen_0 rfl ?_
  refine z_getI G fl_X1_31 rfl dX1_reopen_1 hDG.1.1 ?_
  rw [d3, e3]
  refine z_iconst G (v := 1) dX1_reopen_4 (by decide) ?_
  refine z_icmp_lt G 23 dX1_reopen_5 (by decide) (fun _ => ?_) (fun c => absurd c (by decide))
  refine z_iconst G (v := 0) dX1_reopen_23 (by decide) ?_
  exact z_zret G hq dX1_reopen_24 rfl (h)
set_option maxHeartbeats 1000000 in
set_option maxRecDepth 20000 in
theorem k_X9_back0 {E : pmE} {d : Nat} {S : pmS} {I : pmI} {P : pmP} {R : Option Value → pmS → pmI → pmP → Prop} {w : Nat → Int32} (hX : XG S P) (hD : DR I P 30 w 0 0) (h0w : V0 w) {nx : Nat} (hnx : (I 50 1).toInt = (nx : Int)) (hnx25 : nx < 25) (h : ∀ I', FrD I I' (52 + 20 * nx) → R (some (.int (-1000002))) S I' P) : pmX E (d + 4) 0 0 yX9_back [rr E 0] S I P R := by
  refine pm_of (by decide) cd_X9_back (by decide) (by decide) (Nat.le_of_ble_eq_true rfl) ?_
  intro C G hq
  obtain ⟨⟨a0, a1, a2, a3, a4, a5, a6, a7, a8⟩, hRG, hRdG, hWG, hDG, ⟨z1, z2, z3, z4⟩, hIG, hFG, hAG⟩ := id hX
  obtain ⟨e0, e1, e2, e3, e4⟩ := h0w
  obtain ⟨d1, d2, d3, d4, d5, d6⟩ := id hD
  have hT0 : (w 1).toInt = ((0 : Nat) : Int) := by rw [e1]; rfl
  have hc0 : (w 3).toInt = ((0 : Nat) : Int) := by rw [e3]; rfl
  refine z_aload_n G dX9_back_0 rfl ?_
  refine z_getR G fl_X9_39 rfl dX9_back_1 (by assumption) (by assumption) ?_
  refine z_aload_n G dX9_back_4 rfl ?_
  refine z_getR G fl_X9_32 rfl dX9_back_5 (by assumption) (by assumption) ?_
  refine z_V G lk_X9_149 dX9_back_8 [_] rfl rfl rfl (Nat.le_of_ble_eq_true rfl) ⟨Nat.le_refl _, Nat.le_refl _⟩ z1 ?_
  refine k_X3_prepare hX hnx hnx25 hD hT0 (by omega) hc0 (by omega) (fun i hi => absurd hi (by omega)) (fun i hi => absurd hi (by omega)) (fun I1 f1 f2 => ?_)
  have hD1 : DR I1 P 30 w 0 0 := hD.congr hDG (by omega) (by omega) (fun _ _ _ => rfl) (fun k _ _ => f1 k (by omega))
  refine z_aload_n G dX9_back_11 rfl ?_
  refine z_aload_n G dX9_back_12 rfl ?_
  refine z_getR G fl_X9_32 rfl dX9_back_13 (by assumption) (by assumption) ?_
  refine z_V G lk_X9_164 dX9_back_16 [] rfl rfl rfl (Nat.le_of_ble_eq_true rfl) ⟨Nat.le_refl _, Nat.le_refl _⟩ hDG.1.1 ?_
  refine k_X1_stepBack0 hX hD1 ⟨e0, e1, e2, e3, e4⟩ ?_
  refine z_V G lk_X9_156 dX9_back_19 [_] rfl rfl rfl (Nat.le_of_ble_eq_true rfl) ⟨Nat.le_refl _, Nat.le_refl _⟩ (by assumption) ?_
  refine k_X9_actDone0 ?_
  refine z_if_eq G 35 dX9_back_22 (by decide) (fun _ => ?_) (fun c => absurd c (by decide))
  refine z_ldc G ct_X9_145 dX9_back_35 ?_
  exact z_iret G hq dX9_back_37 (h I1 f1)
set_option maxHeartbeats 1000000 in
set_option maxRecDepth 20000 in
theorem k_X9_forward0 {E : pmE} {d : Nat} {S : pmS} {I : pmI} {P : pmP} {R : Option Value → pmS → pmI → pmP → Prop} {w : Nat → Int32} (hX : XG S P) (hD : DR I P 30 w 0 0) (h0w : V0 w) {nx : Nat} (hnx : (I 50 1).toInt = (nx : Int)) (hnx25 : nx < 25) (h : ∀ I', FrD I I' (52 + 20 * nx) → R (some (.int (-1000002))) S I' P) : pmX E (d + 4) 0 0 yX9_forward [rr E 0] S I P R := by
  refine pm_of (by decide) cd_X9_forward (by decide) (by decide) (Nat.le_of_ble_eq_true rfl) ?_
  intro C G hq
  obtain ⟨⟨a0, a1, a2, a3, a4, a5, a6, a7, a8⟩, hRG, hRdG, hWG, hDG, ⟨z1, z2, z3, z4⟩, hIG, hFG, hAG⟩ := id hX
  obtain ⟨e0, e1, e2, e3, e4⟩ := h0w
  obtain ⟨d1, d2, d3, d4, d5, d6⟩ := id hD
  have hT0 : (w 1).toInt = ((0 : Nat) : Int) := by rw [e1]; rfl
  have hc0 : (w 3).toInt = ((0 : Nat) : Int) := by rw [e3]; rfl
  refine z_aload_n G dX9_forward_0 rfl ?_
  refine z_getR G fl_X9_39 rfl dX9_forward_1 (by assumption) (by assumption) ?_
  refine z_aload_n G dX9_forward_4 rfl ?_
  refine z_getR G fl_X9_32 rfl dX9_forward_5 (by assumption) (by assumption) ?_
  refine z_V G lk_X9_149 dX9_forward_8 [_] rfl rfl rfl (Nat.le_of_ble_eq_true rfl) ⟨Nat.le_refl _, Nat.le_refl _⟩ z1 ?_
  refine k_X3_prepare hX hnx hnx25 hD hT0 (by omega) hc0 (by omega) (fun i hi => absurd hi (by omega)) (fun i hi => absurd hi (by omega)) (fun I1 f1 f2 => ?_)
  have hD1 : DR I1 P 30 w 0 0 := hD.congr hDG (by omega) (by omega) (fun _ _ _ => rfl) (fun k _ _ => f1 k (by omega))
  refine z_aload_n G dX9_forward_11 rfl ?_
  refine z_aload_n G dX9_forward_12 rfl ?_
  refine z_getR G fl_X9_32 rfl dX9_forward_13 (by assumption) (by assumption) ?_
  refine z_V G lk_X9_167 dX9_forward_16 [] rfl rfl rfl (Nat.le_of_ble_eq_true rfl) ⟨Nat.le_refl _, Nat.le_refl _⟩ hDG.1.1 ?_
  refine k_X1_stepForward0 hX hD1 ⟨e0, e1, e2, e3, e4⟩ ?_
  refine z_V G lk_X9_156 dX9_forward_19 [_] rfl rfl rfl (Nat.le_of_ble_eq_true rfl) ⟨Nat.le_refl _, Nat.le_refl _⟩ (by assumption) ?_
  refine k_X9_actDone0 ?_
  refine z_if_eq G 35 dX9_forward_22 (by decide) (fun _ => ?_) (fun c => absurd c (by decide))
  refine z_ldc G ct_X9_145 dX9_forward_35 ?_
  exact z_iret G hq dX9_forward_37 (h I1 f1)
set_option maxHeartbeats 1000000 in
set_option maxRecDepth 20000 in
theorem k_X9_close0 {E : pmE} {d : Nat} {S : pmS} {I : pmI} {P : pmP} {R : Option Value → pmS → pmI → pmP → Prop} {w : Nat → Int32} (hX : XG S P) (hD : DR I P 30 w 0 0) (h0w : V0 w) {nx : Nat} (hnx : (I 50 1).toInt = (nx : Int)) (hnx25 : nx < 25) (h : ∀ I', FrD I I' (52 + 20 * nx) → R (some (.int (-1000002))) S I' P) : pmX E (d + 4) 0 0 yX9_close [rr E 0] S I P R := by
  refine pm_of (by decide) cd_X9_close (by decide) (by decide) (Nat.le_of_ble_eq_true rfl) ?_
  intro C G hq
  obtain ⟨⟨a0, a1, a2, a3, a4, a5, a6, a7, a8⟩, hRG, hRdG, hWG, hDG, ⟨z1, z2, z3, z4⟩, hIG, hFG, hAG⟩ := id hX
  obtain ⟨e0, e1, e2, e3, e4⟩ := h0w
  obtain ⟨d1, d2, d3, d4, d5, d6⟩ := id hD
  have hT0 : (w 1).toInt = ((0 : Nat) : Int) := by rw [e1]; rfl
  have hc0 : (w 3).toInt = ((0 : Nat) : Int) := by rw [e3]; rfl
  refine z_aload_n G dX9_close_0 rfl ?_
  refine z_getR G fl_X9_39 rfl dX9_close_1 (by assumption) (by assumption) ?_
  refine z_aload_n G dX9_close_4 rfl ?_
  refine z_getR G fl_X9_32 rfl dX9_close_5 (by assumption) (by assumption) ?_
  refine z_V G lk_X9_149 dX9_close_8 [_] rfl rfl rfl (Nat.le_of_ble_eq_true rfl) ⟨Nat.le_refl _, Nat.le_refl _⟩ z1 ?_
  refine k_X3_prepare hX hnx hnx25 hD hT0 (by omega) hc0 (by omega) (fun i hi => absurd hi (by omega)) (fun i hi => absurd hi (by omega)) (fun I1 f1 f2 => ?_)
  have hD1 : DR I1 P 30 w 0 0 := hD.congr hDG (by omega) (by omega) (fun _ _ _ => rfl) (fun k _ _ => f1 k (by omega))
  refine z_aload_n G dX9_close_11 rfl ?_
  refine z_aload_n G dX9_close_12 rfl ?_
  refine z_getR G fl_X9_32 rfl dX9_close_13 (by assumption) (by assumption) ?_
  refine z_V G lk_X9_185 dX9_close_16 [] rfl rfl rfl (Nat.le_of_ble_eq_true rfl) ⟨Nat.le_refl _, Nat.le_refl _⟩ hDG.1.1 ?_
  refine k_X1_closeNow0 hX hD1 ⟨e0, e1, e2, e3, e4⟩ ?_
  refine z_V G lk_X9_156 dX9_close_19 [_] rfl rfl rfl (Nat.le_of_ble_eq_true rfl) ⟨Nat.le_refl _, Nat.le_refl _⟩ (by assumption) ?_
  refine k_X9_actDone0 ?_
  refine z_if_eq G 35 dX9_close_22 (by decide) (fun _ => ?_) (fun c => absurd c (by decide))
  refine z_ldc G ct_X9_145 dX9_close_35 ?_
  exact z_iret G hq dX9_close_37 (h I1 f1)
set_option maxHeartbeats 1000000 in
set_option maxRecDepth 20000 in
theorem k_X9_again0 {E : pmE} {d : Nat} {S : pmS} {I : pmI} {P : pmP} {R : Option Value → pmS → pmI → pmP → Prop} {w : Nat → Int32} (hX : XG S P) (hD : DR I P 30 w 0 0) (h0w : V0 w) {nx : Nat} (hnx : (I 50 1).toInt = (nx : Int)) (hnx25 : nx < 25) (h : ∀ I', FrD I I' (52 + 20 * nx) → R (some (.int (-1000002))) S I' P) : pmX E (d + 4) 0 0 yX9_again [rr E 0] S I P R := by
  refine pm_of (by decide) cd_X9_again (by decide) (by decide) (Nat.le_of_ble_eq_true rfl) ?_
  intro C G hq
  obtain ⟨⟨a0, a1, a2, a3, a4, a5, a6, a7, a8⟩, hRG, hRdG, hWG, hDG, ⟨z1, z2, z3, z4⟩, hIG, hFG, hAG⟩ := id hX
  obtain ⟨e0, e1, e2, e3, e4⟩ := h0w
  obtain ⟨d1, d2, d3, d4, d5, d6⟩ := id hD
  have hT0 : (w 1).toInt = ((0 : Nat) : Int) := by rw [e1]; rfl
  have hc0 : (w 3).toInt = ((0 : Nat) : Int) := by rw [e3]; rfl
  refine z_aload_n G dX9_again_0 rfl ?_
  refine z_getR G fl_X9_39 rfl dX9_again_1 (by assumption) (by assumption) ?_
  refine z_aload_n G dX9_again_4 rfl ?_
  refine z_getR G fl_X9_32 rfl dX9_again_5 (by assumption) (by assumption) ?_
  refine z_V G lk_X9_149 dX9_again_8 [_] rfl rfl rfl (Nat.le_of_ble_eq_true rfl) ⟨Nat.le_refl _, Nat.le_refl _⟩ z1 ?_
  refine k_X3_prepare hX hnx hnx25 hD hT0 (by omega) hc0 (by omega) (fun i hi => absurd hi (by omega)) (fun i hi => absurd hi (by omega)) (fun I1 f1 f2 => ?_)
  have hD1 : DR I1 P 30 w 0 0 := hD.congr hDG (by omega) (by omega) (fun _ _ _ => rfl) (fun k _ _ => f1 k (by omega))
  refine z_aload_n G dX9_again_11 rfl ?_
  refine z_aload_n G dX9_again_12 rfl ?_
  refine z_getR G fl_X9_32 rfl dX9_again_13 (by assumption) (by assumption) ?_
  refine z_V G lk_X9_188 dX9_again_16 [] rfl rfl rfl (Nat.le_of_ble_eq_true rfl) ⟨Nat.le_refl _, Nat.le_refl _⟩ hDG.1.1 ?_
  refine k_X1_reopen0 hX hD1 ⟨e0, e1, e2, e3, e4⟩ ?_
  refine z_V G lk_X9_156 dX9_again_19 [_] rfl rfl rfl (Nat.le_of_ble_eq_true rfl) ⟨Nat.le_refl _, Nat.le_refl _⟩ (by assumption) ?_
  refine k_X9_actDone0 ?_
  refine z_if_eq G 35 dX9_again_22 (by decide) (fun _ => ?_) (fun c => absurd c (by decide))
  refine z_ldc G ct_X9_145 dX9_again_35 ?_
  exact z_iret G hq dX9_again_37 (h I1 f1)
set_option maxHeartbeats 1000000 in
set_option maxRecDepth 20000 in
theorem k_X9_follow0 {E : pmE} {d : Nat} {S : pmS} {I : pmI} {P : pmP} {R : Option Value → pmS → pmI → pmP → Prop} (hX : XG S P) (hn : I 27 2 = 0) {j : Int32} (h : R (some (.int (-1000002))) S I P) : pmX E (d + 4) 0 0 yX9_follow [rr E 0, .int j] S I P R := by
  refine pm_of (by decide) cd_X9_follow (by decide) (by decide) (Nat.le_of_ble_eq_true rfl) ?_
  intro C G hq
  obtain ⟨⟨a0, a1, a2, a3, a4, a5, a6, a7, a8⟩, hRG, hRdG, hWG, hDG, ⟨z1, z2, z3, z4⟩, hIG, hFG, hAG⟩ := id hX
  refine z_aload_n G dX9_follow_0 rfl ?_
  refine z_V G lk_X9_142 dX9_follow_1 [] rfl rfl rfl (Nat.le_of_ble_eq_true rfl) ⟨Nat.le_refl _, Nat.le_refl _⟩ (by assumption) ?_
  refine k_X9_stands hX (n := 0) (by rw [hn]; rfl) (fun q => absurd q (by omega)) (fun _ => ?_)
  refine z_if_ne G 10 dX9_follow_4 (by decide) (fun c => absurd c (by decide)) (fun _ => ?_)
  refine z_ldc G ct_X9_145 dX9_follow_7 ?_
  exact z_iret G hq dX9_follow_9 (h)
set_option maxHeartbeats 1000000 in
set_option maxRecDepth 20000 in
theorem k_X9_select0 {E : pmE} {d : Nat} {S : pmS} {I : pmI} {P : pmP} {R : Option Value → pmS → pmI → pmP → Prop} {w : Nat → Int32} (hX : XG S P) (hD : DR I P 30 w 0 0) (h0w : V0 w) {tab : Int32} (h : R (some (.int (-1000001))) S I P) : pmX E (d + 4) 0 0 yX9_select [rr E 0, .int tab] S I P R := by
  refine pm_of (by decide) cd_X9_select (by decide) (by decide) (Nat.le_of_ble_eq_true rfl) ?_
  intro C G hq
  obtain ⟨⟨a0, a1, a2, a3, a4, a5, a6, a7, a8⟩, hRG, hRdG, hWG, hDG, ⟨z1, z2, z3, z4⟩, hIG, hFG, hAG⟩ := id hX
  obtain ⟨e0, e1, e2, e3, e4⟩ := h0w
  obtain ⟨d1, d2, d3, d4, d5, d6⟩ := id hD
  refine z_aload_n G dX9_select_0 rfl ?_
  refine z_getR G fl_X9_32 rfl dX9_select_1 (by assumption) (by assumption) ?_
  refine z_iload_n G dX9_select_4 rfl ?_
  refine z_V G lk_X9_170 dX9_select_5 [_] rfl rfl rfl (Nat.le_of_ble_eq_true rfl) ⟨Nat.le_refl _, Nat.le_refl _⟩ hDG.1.1 ?_
  refine k_X1_hasTab hDG.1.1 (T := 0) (by rw [d1, e1]; rfl) (by omega) (fun i _ q => absurd q (by omega)) (fun _ => ?_)
  refine z_if_ne G 14 dX9_select_8 (by decide) (fun c => absurd c (by decide)) (fun _ => ?_)
  refine z_ldc G ct_X9_73 dX9_select_11 ?_
  exact z_iret G hq dX9_select_13 (h)
set_option maxHeartbeats 1000000 in
set_option maxRecDepth 20000 in
theorem k_X9_open0 {E : pmE} {d : Nat} {S : pmS} {I : pmI} {P : pmP} {R : Option Value → pmS → pmI → pmP → Prop} (hX : XG S P) (hn : I 27 2 = 0) {page : Int32} (h : R (some (.int (-1000001))) S I P) : pmX E (d + 4) 0 0 yX9_open [rr E 0, .int page] S I P R := by
  refine pm_of (by decide) cd_X9_open (by decide) (by decide) (Nat.le_of_ble_eq_true rfl) ?_
  intro C G hq
  obtain ⟨⟨a0, a1, a2, a3, a4, a5, a6, a7, a8⟩, hRG, hRdG, hWG, hDG, ⟨z1, z2, z3, z4⟩, hIG, hFG, hAG⟩ := id hX
  refine z_aload_n G dX9_open_0 rfl ?_
  refine z_getR G fl_X9_25 rfl dX9_open_1 (by assumption) (by assumption) ?_
  refine z_iload_n G dX9_open_4 rfl ?_
  refine z_V G lk_X9_179 dX9_open_5 [_] rfl rfl rfl (Nat.le_of_ble_eq_true rfl) ⟨Nat.le_refl _, Nat.le_refl _⟩ hWG.1 ?_
  refine k_X8_hasPage hWG.1 (n := 0) (by rw [hn]; rfl) (fun p _ q => absurd q (by omega)) (fun _ => ?_)
  refine z_if_ne G 14 dX9_open_8 (by decide) (fun c => absurd c (by decide)) (fun _ => ?_)
  refine z_ldc G ct_X9_73 dX9_open_11 ?_
  exact z_iret G hq dX9_open_13 (h)
set_option maxHeartbeats 1000000 in
set_option maxRecDepth 20000 in
theorem k_X9_walk0 {E : pmE} {d : Nat} {S : pmS} {I : pmI} {P : pmP} {R : Option Value → pmS → pmI → pmP → Prop} (hX : XG S P) (hn : I 27 2 = 0) {nn j : Int32} (h : R (some (.int (-1000002))) S I P) : pmX E (d + 4) 0 0 yX9_walk [rr E 0, .int nn, .int j] S I P R := by
  refine pm_of (by decide) cd_X9_walk (by decide) (by decide) (Nat.le_of_ble_eq_true rfl) ?_
  intro C G hq
  obtain ⟨⟨a0, a1, a2, a3, a4, a5, a6, a7, a8⟩, hRG, hRdG, hWG, hDG, ⟨z1, z2, z3, z4⟩, hIG, hFG, hAG⟩ := id hX
  refine z_aload_n G dX9_walk_0 rfl ?_
  refine z_V G lk_X9_142 dX9_walk_1 [] rfl rfl rfl (Nat.le_of_ble_eq_true rfl) ⟨Nat.le_refl _, Nat.le_refl _⟩ (by assumption) ?_
  refine k_X9_stands hX (n := 0) (by rw [hn]; rfl) (fun q => absurd q (by omega)) (fun _ => ?_)
  refine z_if_ne G 10 dX9_walk_4 (by decide) (fun c => absurd c (by decide)) (fun _ => ?_)
  refine z_ldc G ct_X9_145 dX9_walk_7 ?_
  exact z_iret G hq dX9_walk_9 (h)
set_option maxHeartbeats 1000000 in
set_option maxRecDepth 20000 in
theorem k_X10_follow0 {E : pmE} {d : Nat} {S : pmS} {I : pmI} {P : pmP} {R : Option Value → pmS → pmI → pmP → Prop} {m : Nat} (hM : MG S P m) (h0w : V0 (I (m + 6))) {j : Int32} (h : R (some (.int (-1000002))) S I P) : pmX E (d + 4) 0 0 yX10_follow [rr E m, .int j] S I P R := by
  refine pm_of (by decide) cd_X10_follow (by decide) (by decide) (Nat.le_of_ble_eq_true rfl) ?_
  intro C G hq
  obtain ⟨g0, ⟨r0, r1, r2, r3, r4, r5, r6, r7, r8, r9, r10, r11, r12, r13, r14⟩, ⟨s1, s2, s3, s4, s5, s6, s7, s8, s9, s10, s11, s12, s13, s14, s15⟩⟩ := id hM
  obtain ⟨e0, e1, e2, e3, e4⟩ := id h0w
  refine z_aload_n G dX10_follow_0 rfl ?_
  refine z_V G lk_X10_179 dX10_follow_1 [] rfl rfl rfl (Nat.le_of_ble_eq_true rfl) ⟨Nat.le_refl _, Nat.le_refl _⟩ (by assumption) ?_
  refine k_X10_isWeb hM (n := 0) (by rw [e0]; rfl) (fun q => absurd q (by omega)) (fun _ => ?_)
  refine z_if_ne G 10 dX10_follow_4 (by decide) (fun c => absurd c (by decide)) (fun _ => ?_)
  refine z_ldc G ct_X10_182 dX10_follow_7 ?_
  exact z_iret G hq dX10_follow_9 (h)
set_option maxHeartbeats 1000000 in
set_option maxRecDepth 20000 in
theorem k_X10_walk0 {E : pmE} {d : Nat} {S : pmS} {I : pmI} {P : pmP} {R : Option Value → pmS → pmI → pmP → Prop} {m : Nat} (hM : MG S P m) (h0w : V0 (I (m + 6))) {nn j : Int32} (h : R (some (.int (-1000002))) S I P) : pmX E (d + 2) 0 0 yX10_walk [rr E m, .int nn, .int j] S I P R := by
  refine pm_of (by decide) cd_X10_walk (by decide) (by decide) (Nat.le_of_ble_eq_true rfl) ?_
  intro C G hq
  obtain ⟨g0, ⟨r0, r1, r2, r3, r4, r5, r6, r7, r8, r9, r10, r11, r12, r13, r14⟩, ⟨s1, s2, s3, s4, s5, s6, s7, s8, s9, s10, s11, s12, s13, s14, s15⟩⟩ := id hM
  obtain ⟨e0, e1, e2, e3, e4⟩ := id h0w
  refine z_aload_n G dX10_walk_0 rfl ?_
  refine z_V G lk_X10_179 dX10_walk_1 [] rfl rfl rfl (Nat.le_of_ble_eq_true rfl) ⟨Nat.le_refl _, Nat.le_refl _⟩ (by assumption) ?_
  refine k_X10_isWeb hM (n := 0) (by rw [e0]; rfl) (fun q => absurd q (by omega)) (fun _ => ?_)
  refine z_if_ne G 10 dX10_walk_4 (by decide) (fun c => absurd c (by decide)) (fun _ => ?_)
  refine z_ldc G ct_X10_182 dX10_walk_7 ?_
  exact z_iret G hq dX10_walk_9 (h)
set_option maxHeartbeats 1000000 in
set_option maxRecDepth 20000 in
theorem k_X10_turned0 {E : pmE} {d : Nat} {S : pmS} {I : pmI} {P : pmP} {R : Option Value → pmS → pmI → pmP → Prop} {m : Nat} (hM : MG S P m) (h0w : V0 (I (m + 6))) {way : Int32} (h : R (some (.int (-1000002))) S I P) : pmX E (d + 3) 0 0 yX10_turned [rr E m, .int way] S I P R := by
  refine pm_of (by decide) cd_X10_turned (by decide) (by decide) (Nat.le_of_ble_eq_true rfl) ?_
  intro C G hq
  obtain ⟨g0, ⟨r0, r1, r2, r3, r4, r5, r6, r7, r8, r9, r10, r11, r12, r13, r14⟩, ⟨s1, s2, s3, s4, s5, s6, s7, s8, s9, s10, s11, s12, s13, s14, s15⟩⟩ := id hM
  obtain ⟨e0, e1, e2, e3, e4⟩ := id h0w
  refine z_aload_n G dX10_turned_0 rfl ?_
  refine z_V G lk_X10_179 dX10_turned_1 [] rfl rfl rfl (Nat.le_of_ble_eq_true rfl) ⟨Nat.le_refl _, Nat.le_refl _⟩ (by assumption) ?_
  refine k_X10_isWeb hM (n := 0) (by rw [e0]; rfl) (fun q => absurd q (by omega)) (fun _ => ?_)
  refine z_if_eq G 18 dX10_turned_4 (by decide) (fun _ => ?_) (fun c => absurd c (by decide))
  refine z_ldc G ct_X10_182 dX10_turned_18 ?_
  exact z_iret G hq dX10_turned_20 (h)
set_option maxHeartbeats 1000000 in
set_option maxRecDepth 20000 in
theorem k_X10_back0 {E : pmE} {d : Nat} {S : pmS} {I : pmI} {P : pmP} {R : Option Value → pmS → pmI → pmP → Prop} {m : Nat} (hM : MG S P m) (h0w : V0 (I (m + 6))) (h : R (some (.int (-1000002))) S I P) : pmX E (d + 4) 0 0 yX10_back [rr E m] S I P R := by
  refine pm_of (by decide) cd_X10_back (by decide) (by decide) (Nat.le_of_ble_eq_true rfl) ?_
  intro C G hq
  obtain ⟨g0, ⟨r0, r1, r2, r3, r4, r5, r6, r7, r8, r9, r10, r11, r12, r13, r14⟩, ⟨s1, s2, s3, s4, s5, s6, s7, s8, s9, s10, s11, s12, s13, s14, s15⟩⟩ := id hM
  obtain ⟨e0, e1, e2, e3, e4⟩ := id h0w
  refine z_aload_n G dX10_back_0 rfl ?_
  refine z_iconst G (v := 0) dX10_back_1 (by decide) ?_
  refine z_V G lk_X10_199 dX10_back_2 [_] rfl rfl rfl (Nat.le_of_ble_eq_true rfl) ⟨Nat.le_refl _, Nat.le_refl _⟩ (by assumption) ?_
  refine k_X10_turned0 hM h0w ?_
  exact z_iret G hq dX10_back_5 (h)
set_option maxHeartbeats 1000000 in
set_option maxRecDepth 20000 in
theorem k_X10_forward0 {E : pmE} {d : Nat} {S : pmS} {I : pmI} {P : pmP} {R : Option Value → pmS → pmI → pmP → Prop} {m : Nat} (hM : MG S P m) (h0w : V0 (I (m + 6))) (h : R (some (.int (-1000002))) S I P) : pmX E (d + 4) 0 0 yX10_forward [rr E m] S I P R := by
  refine pm_of (by decide) cd_X10_forward (by decide) (by decide) (Nat.le_of_ble_eq_true rfl) ?_
  intro C G hq
  obtain ⟨g0, ⟨r0, r1, r2, r3, r4, r5, r6, r7, r8, r9, r10, r11, r12, r13, r14⟩, ⟨s1, s2, s3, s4, s5, s6, s7, s8, s9, s10, s11, s12, s13, s14, s15⟩⟩ := id hM
  obtain ⟨e0, e1, e2, e3, e4⟩ := id h0w
  refine z_aload_n G dX10_forward_0 rfl ?_
  refine z_iconst G (v := 1) dX10_forward_1 (by decide) ?_
  refine z_V G lk_X10_199 dX10_forward_2 [_] rfl rfl rfl (Nat.le_of_ble_eq_true rfl) ⟨Nat.le_refl _, Nat.le_refl _⟩ (by assumption) ?_
  refine k_X10_turned0 hM h0w ?_
  exact z_iret G hq dX10_forward_5 (h)
set_option maxHeartbeats 1000000 in
set_option maxRecDepth 20000 in
theorem k_X10_select0 {E : pmE} {d : Nat} {S : pmS} {I : pmI} {P : pmP} {R : Option Value → pmS → pmI → pmP → Prop} {m : Nat} (hM : MG S P m) (h0w : V0 (I (m + 6))) {tab : Int32} (h : R (some (.int (-1000001))) S I P) : pmX E (d + 2) 0 0 yX10_select [rr E m, .int tab] S I P R := by
  refine pm_of (by decide) cd_X10_select (by decide) (by decide) (Nat.le_of_ble_eq_true rfl) ?_
  intro C G hq
  obtain ⟨g0, ⟨r0, r1, r2, r3, r4, r5, r6, r7, r8, r9, r10, r11, r12, r13, r14⟩, ⟨s1, s2, s3, s4, s5, s6, s7, s8, s9, s10, s11, s12, s13, s14, s15⟩⟩ := id hM
  obtain ⟨e0, e1, e2, e3, e4⟩ := id h0w
  refine z_aload_n G dX10_select_0 rfl ?_
  refine z_iload_n G dX10_select_1 rfl ?_
  refine z_V G lk_X10_202 dX10_select_2 [_] rfl rfl rfl (Nat.le_of_ble_eq_true rfl) ⟨Nat.le_refl _, Nat.le_refl _⟩ (by assumption) ?_
  refine k_X10_isTab hM (T := 0) (by rw [e1]; rfl) (by omega) (fun k _ q => absurd q (by omega)) (fun _ => ?_)
  refine z_if_ne G 11 dX10_select_5 (by decide) (fun c => absurd c (by decide)) (fun _ => ?_)
  refine z_ldc G ct_X10_70 dX10_select_8 ?_
  exact z_iret G hq dX10_select_10 (h)
set_option maxHeartbeats 1000000 in
set_option maxRecDepth 20000 in
theorem k_X10_open0 {E : pmE} {d : Nat} {S : pmS} {I : pmI} {P : pmP} {R : Option Value → pmS → pmI → pmP → Prop} {m : Nat} (hM : MG S P m) (h0w : V0 (I (m + 6))) {page : Int32} (h : R (some (.int (-1000001))) S I P) : pmX E (d + 4) 0 0 yX10_open [rr E m, .int page] S I P R := by
  refine pm_of (by decide) cd_X10_open (by decide) (by decide) (Nat.le_of_ble_eq_true rfl) ?_
  intro C G hq
  obtain ⟨g0, ⟨r0, r1, r2, r3, r4, r5, r6, r7, r8, r9, r10, r11, r12, r13, r14⟩, ⟨s1, s2, s3, s4, s5, s6, s7, s8, s9, s10, s11, s12, s13, s14, s15⟩⟩ := id hM
  obtain ⟨e0, e1, e2, e3, e4⟩ := id h0w
  refine z_aload_n G dX10_open_0 rfl ?_
  refine z_iload_n G dX10_open_1 rfl ?_
  refine z_V G lk_X10_205 dX10_open_2 [_] rfl rfl rfl (Nat.le_of_ble_eq_true rfl) ⟨Nat.le_refl _, Nat.le_refl _⟩ (by assumption) ?_
  refine k_X10_isPage hM (n := 0) (by rw [e0]; rfl) (by omega) (fun k _ q => absurd q (by omega)) (fun _ => ?_)
  refine z_if_ne G 11 dX10_open_5 (by decide) (fun c => absurd c (by decide)) (fun _ => ?_)
  refine z_ldc G ct_X10_70 dX10_open_8 ?_
  exact z_iret G hq dX10_open_10 (h)
set_option maxHeartbeats 1000000 in
set_option maxRecDepth 20000 in
theorem k_X10_close0 {E : pmE} {d : Nat} {S : pmS} {I : pmI} {P : pmP} {R : Option Value → pmS → pmI → pmP → Prop} {m : Nat} (hM : MG S P m) (h0w : V0 (I (m + 6))) (h : R (some (.int (-1000002))) S I P) : pmX E (d + 2) 0 0 yX10_close [rr E m] S I P R := by
  refine pm_of (by decide) cd_X10_close (by decide) (by decide) (Nat.le_of_ble_eq_true rfl) ?_
  intro C G hq
  obtain ⟨g0, ⟨r0, r1, r2, r3, r4, r5, r6, r7, r8, r9, r10, r11, r12, r13, r14⟩, ⟨s1, s2, s3, s4, s5, s6, s7, s8, s9, s10, s11, s12, s13, s14, s15⟩⟩ := id hM
  obtain ⟨e0, e1, e2, e3, e4⟩ := id h0w
  refine z_aload_n G dX10_close_0 rfl ?_
  refine z_getR G fl_X10_25 rfl dX10_close_1 (by assumption) (by assumption) ?_
  refine z_iconst G (v := 1) dX10_close_4 (by decide) ?_
  refine z_iald G (1) dX10_close_5 (by assumption) (rfl) (by omega) ?_
  rw [e1]
  refine z_iconst G (v := 2) dX10_close_6 (by decide) ?_
  refine z_icmp_ge G 13 dX10_close_7 (by decide) (fun c => absurd c (by decide)) (fun _ => ?_)
  refine z_ldc G ct_X10_182 dX10_close_10 ?_
  exact z_iret G hq dX10_close_12 (h)
set_option maxHeartbeats 1000000 in
set_option maxRecDepth 20000 in
theorem k_X10_again0 {E : pmE} {d : Nat} {S : pmS} {I : pmI} {P : pmP} {R : Option Value → pmS → pmI → pmP → Prop} {m : Nat} (hM : MG S P m) (h0w : V0 (I (m + 6))) (h : R (some (.int (-1000002))) S I P) : pmX E (d + 2) 0 0 yX10_again [rr E m] S I P R := by
  refine pm_of (by decide) cd_X10_again (by decide) (by decide) (Nat.le_of_ble_eq_true rfl) ?_
  intro C G hq
  obtain ⟨g0, ⟨r0, r1, r2, r3, r4, r5, r6, r7, r8, r9, r10, r11, r12, r13, r14⟩, ⟨s1, s2, s3, s4, s5, s6, s7, s8, s9, s10, s11, s12, s13, s14, s15⟩⟩ := id hM
  obtain ⟨e0, e1, e2, e3, e4⟩ := id h0w
  refine z_aload_n G dX10_again_0 rfl ?_
  refine z_getR G fl_X10_25 rfl dX10_again_1 (by assumption) (by assumption) ?_
  refine z_iconst G (v := 3) dX10_again_4 (by decide) ?_
  refine z_iald G (3) dX10_again_5 (by assumption) (rfl) (by omega) ?_
  rw [e3]
  refine z_if_eq G 19 dX10_again_6 (by decide) (fun _ => ?_) (fun c => absurd c (by decide))
  refine z_ldc G ct_X10_182 dX10_again_19 ?_
  exact z_iret G hq dX10_again_21 (h)
