set_option maxHeartbeats 1000000 in
set_option maxRecDepth 20000 in
theorem k_X1_allVisits {E : pmE} {d : Nat} {S : pmS} {I : pmI} {P : pmP} {R : Option Value → pmS → pmI → pmP → Prop} {dk : Nat} {w : Nat → Int32} (hG : DG S P dk) (hvis : ∀ p, p < 8 → I (dk + 3) p = w (8 + 5 * p)) (h : R (some (.int (sumV w 8))) S I P) : pmX E d 0 0 yX1_allVisits [rr E dk] S I P R := by
  refine pm_of (by decide) cd_X1_allVisits (by decide) (by decide) (Nat.le_of_ble_eq_true rfl) ?_
  intro C G hq
  obtain ⟨⟨g1, g2, g3, g4, g5, g6, g7⟩, g8, g9, g10, g11, g12⟩ := id hG
  have loop : ∀ (r k : Nat) (x : Int32), x.toInt = (k : Int) → k + r = 8 → pmZ E C 4 [some (rr E dk), some (.int (sumV w k)), some (.int x)] [] S I P 0 0 := by
    intro r
    induction r with
    | zero =>
      intro k x hx hr
      obtain rfl : k = 8 := by omega
      refine z_iload_n G dX1_allVisits_4 rfl ?_
      refine z_bipush G (v := 8) dX1_allVisits_5 (by decide) ?_
      refine z_icmp_ge G 25 dX1_allVisits_7 (by decide) (fun _ => ?_) (fun c => absurd c (fun z => z (by simp (disch := omega) only [iN_lit, iN_add, iN_sub, iN_mul, iN_an, iN_le, iN_lt, iN_eq, iN_of hx] <;> omega)))
      refine z_iload_n G dX1_allVisits_25 rfl ?_
      exact z_iret G hq dX1_allVisits_26 (h)
    | succ r ih =>
      intro k x hx hr
      refine z_iload_n G dX1_allVisits_4 rfl ?_
      refine z_bipush G (v := 8) dX1_allVisits_5 (by decide) ?_
      refine z_icmp_ge G 25 dX1_allVisits_7 (by decide) (fun c => absurd c (by simp (disch := omega) only [iN_lit, iN_add, iN_sub, iN_mul, iN_an, iN_le, iN_lt, iN_eq, iN_of hx]; omega)) (fun _ => ?_)
      refine z_iload_n G dX1_allVisits_10 rfl ?_
      refine z_aload_n G dX1_allVisits_11 rfl ?_
      refine z_getR G fl_X1_20 rfl dX1_allVisits_12 (by assumption) (by assumption) ?_
      refine z_iload_n G dX1_allVisits_15 rfl ?_
      refine z_iald G (k) dX1_allVisits_16 (by assumption) (hx) (by omega) ?_
      rw [hvis k (by omega)]
      refine z_iadd G dX1_allVisits_17 ?_
      refine z_istore_n G dX1_allVisits_18 (Nat.le_of_ble_eq_true rfl) rfl ?_
      refine z_iinc G (v := 1) dX1_allVisits_19 (by decide) rfl rfl ?_
      refine z_goto G 4 dX1_allVisits_22 (by decide) ?_
      exact ih (k + 1) _ (by simp (disch := omega) only [iN_lit, iN_add, iN_sub, iN_mul, iN_an, iN_of hx]; exact iN_ti2 (by omega) (by omega)) (by omega)
  refine z_iconst G (v := 0) dX1_allVisits_0 (by decide) ?_
  refine z_istore_n G dX1_allVisits_1 (Nat.le_of_ble_eq_true rfl) rfl ?_
  refine z_iconst G (v := 0) dX1_allVisits_2 (by decide) ?_
  refine z_istore_n G dX1_allVisits_3 (Nat.le_of_ble_eq_true rfl) rfl ?_
  exact loop 8 0 0 rfl rfl
set_option maxHeartbeats 1000000 in
set_option maxRecDepth 20000 in
theorem k_X1_shareOf {E : pmE} {d : Nat} {S : pmS} {I : pmI} {P : pmP} {R : Option Value → pmS → pmI → pmP → Prop} {dk n q : Nat} {w : Nat → Int32} {page x : Int32} (hG : DG S P dk) (hvis : ∀ p, p < 8 → I (dk + 3) p = w (8 + 5 * p)) (hv : VV w n) (hn8 : n ≤ 8) (hq1 : page.toInt = (q : Int)) (hqn : q < n) (h0 : w (8 + 5 * q) = 0 → R (some (.int 0)) S I P) (h1 : ¬ w (8 + 5 * q) = 0 → R (some (.int (shareI w n q x))) S I P) : pmX E (d + 1) 0 0 yX1_shareOf [rr E dk, .int page, .int x] S I P R := by
  refine pm_of (by decide) cd_X1_shareOf (by decide) (by decide) (Nat.le_of_ble_eq_true rfl) ?_
  intro C G hq
  obtain ⟨⟨g1, g2, g3, g4, g5, g6, g7⟩, g8, g9, g10, g11, g12⟩ := id hG
  have loop : ¬ w (8 + 5 * q) = 0 → ∀ (r k : Nat) (y : Int32), y.toInt = (k : Int) → k + r = 8 → pmZ E C 39 [some (rr E dk), some (.int page), some (.int x), some (.int (sumV w 8)), some (.int (overI w x (sumV w 8) k)), some (.int (aheadI w q k)), some (.int y)] [] S I P 0 0 := by
    intro hz r
    have hpos := sumV_pos hv hn8 hqn hz
    rw [← sumV_8 hv 8 hn8 (Nat.le_refl _)] at hpos
    have hne : ¬ sumV w 8 = 0 := fun z => by rw [z] at hpos; simp only [Int32.reduceToInt] at hpos; omega
    induction r with
    | zero =>
      intro k y hy hr
      obtain rfl : k = 8 := by omega
      refine z_iload G dX1_shareOf_39 rfl ?_
      refine z_bipush G (v := 8) dX1_shareOf_41 (by decide) ?_
      refine z_icmp_ge G 87 dX1_shareOf_43 (by decide) (fun _ => ?_) (fun c => absurd c (fun z => z (by simp (disch := omega) only [iN_lit, iN_add, iN_sub, iN_mul, iN_an, iN_le, iN_lt, iN_eq, iN_of hy] <;> omega)))
      refine z_iload_n G dX1_shareOf_87 rfl ?_
      refine z_aload_n G dX1_shareOf_88 rfl ?_
      refine z_getR G fl_X1_20 rfl dX1_shareOf_89 (by assumption) (by assumption) ?_
      refine z_iload_n G dX1_shareOf_92 rfl ?_
      refine z_iald G (q) dX1_shareOf_93 (by assumption) (hq1) (by omega) ?_
      rw [hvis q (by omega)]
      refine z_imul G dX1_shareOf_94 ?_
      refine z_iload_n G dX1_shareOf_95 rfl ?_
      refine z_idiv G dX1_shareOf_96 hne ?_
      refine z_iload G dX1_shareOf_97 rfl ?_
      refine z_iload G dX1_shareOf_99 rfl ?_
      refine z_icmp_ge G 108 dX1_shareOf_101 (by decide) (fun b101 => ?_) (fun b101 => ?_)
      · refine z_iconst G (v := 0) dX1_shareOf_108 (by decide) ?_
        refine z_iadd G dX1_shareOf_109 ?_
        exact z_iret G hq dX1_shareOf_110 (by have := h1 hz; unfold shareI at this; rw [← sumV_8 hv 8 hn8 (Nat.le_refl _), ← overI_8 hv 8 hn8 (Nat.le_refl _), ← aheadI_8 hqn 8 hn8 (Nat.le_refl _)] at this; rw [if_neg (by simp only [ti_lt, ti_le] at *; omega)] at this; exact this)
      · refine z_iconst G (v := 1) dX1_shareOf_104 (by decide) ?_
        refine z_goto G 109 dX1_shareOf_105 (by decide) ?_
        refine z_iadd G dX1_shareOf_109 ?_
        exact z_iret G hq dX1_shareOf_110 (by have := h1 hz; unfold shareI at this; rw [← sumV_8 hv 8 hn8 (Nat.le_refl _), ← overI_8 hv 8 hn8 (Nat.le_refl _), ← aheadI_8 hqn 8 hn8 (Nat.le_refl _)] at this; rw [if_pos (by simp only [ti_lt, ti_le] at *; omega)] at this; exact this)
    | succ r ih =>
      intro k y hy hr
      refine z_iload G dX1_shareOf_39 rfl ?_
      refine z_bipush G (v := 8) dX1_shareOf_41 (by decide) ?_
      refine z_icmp_ge G 87 dX1_shareOf_43 (by decide) (fun c => absurd c (by simp (disch := omega) only [iN_lit, iN_add, iN_sub, iN_mul, iN_an, iN_le, iN_lt, iN_eq, iN_of hy]; omega)) (fun _ => ?_)
      refine z_iload G dX1_shareOf_46 rfl ?_
      refine z_iload_n G dX1_shareOf_48 rfl ?_
      refine z_aload_n G dX1_shareOf_49 rfl ?_
      refine z_getR G fl_X1_20 rfl dX1_shareOf_50 (by assumption) (by assumption) ?_
      refine z_iload G dX1_shareOf_53 rfl ?_
      refine z_iald G (k) dX1_shareOf_55 (by assumption) (hy) (by omega) ?_
      rw [hvis k (by omega)]
      refine z_imul G dX1_shareOf_56 ?_
      refine z_iload_n G dX1_shareOf_57 rfl ?_
      refine z_idiv G dX1_shareOf_58 hne ?_
      refine z_isub G dX1_shareOf_59 ?_
      refine z_istore G dX1_shareOf_60 (Nat.le_of_ble_eq_true rfl) rfl ?_
      refine z_iload G dX1_shareOf_62 rfl ?_
      refine z_iload_n G dX1_shareOf_64 rfl ?_
      refine z_icmp_ge G 81 dX1_shareOf_65 (by decide) (fun b65 => ?_) (fun b65 => ?_)
      · refine z_iinc G (v := 1) dX1_shareOf_81 (by decide) rfl rfl ?_
        refine z_goto G 39 dX1_shareOf_84 (by decide) ?_
        refine z_eq rfl ?_ rfl rfl rfl (ih (k + 1) (y + 1) (by simp (disch := omega) only [iN_lit, iN_add, iN_sub, iN_mul, iN_an, iN_of hy]; exact iN_ti2 (by omega) (by omega)) (by omega))
        show _ = [some (rr E dk), some (.int page), some (.int x), some (.int (sumV w 8)), some (.int (overI w x (sumV w 8) k - x * w (8 + 5 * k) / sumV w 8)), some (.int (aheadI w q k + (if k < q ∧ 0 < w (8 + 5 * k) then 1 else 0))), some (.int (y + 1))]
        rw [if_neg (fun z => by simp only [ti_le, hy, hq1] at b65; omega), Int32.add_zero]
        rfl
      · refine z_aload_n G dX1_shareOf_68 rfl ?_
        refine z_getR G fl_X1_20 rfl dX1_shareOf_69 (by assumption) (by assumption) ?_
        refine z_iload G dX1_shareOf_72 rfl ?_
        refine z_iald G (k) dX1_shareOf_74 (by assumption) (hy) (by omega) ?_
        rw [hvis k (by omega)]
        refine z_if_le G 81 dX1_shareOf_75 (by decide) (fun b75 => ?_) (fun b75 => ?_)
        · refine z_iinc G (v := 1) dX1_shareOf_81 (by decide) rfl rfl ?_
          refine z_goto G 39 dX1_shareOf_84 (by decide) ?_
          refine z_eq rfl ?_ rfl rfl rfl (ih (k + 1) (y + 1) (by simp (disch := omega) only [iN_lit, iN_add, iN_sub, iN_mul, iN_an, iN_of hy]; exact iN_ti2 (by omega) (by omega)) (by omega))
          show _ = [some (rr E dk), some (.int page), some (.int x), some (.int (sumV w 8)), some (.int (overI w x (sumV w 8) k - x * w (8 + 5 * k) / sumV w 8)), some (.int (aheadI w q k + (if k < q ∧ 0 < w (8 + 5 * k) then 1 else 0))), some (.int (y + 1))]
          rw [if_neg (fun z => by have := z.2; simp only [ti_lt, ti_le] at *; omega), Int32.add_zero]
          rfl
        · refine z_iinc G (v := 1) dX1_shareOf_78 (by decide) rfl rfl ?_
          refine z_iinc G (v := 1) dX1_shareOf_81 (by decide) rfl rfl ?_
          refine z_goto G 39 dX1_shareOf_84 (by decide) ?_
          refine z_eq rfl ?_ rfl rfl rfl (ih (k + 1) (y + 1) (by simp (disch := omega) only [iN_lit, iN_add, iN_sub, iN_mul, iN_an, iN_of hy]; exact iN_ti2 (by omega) (by omega)) (by omega))
          show _ = [some (rr E dk), some (.int page), some (.int x), some (.int (sumV w 8)), some (.int (overI w x (sumV w 8) k - x * w (8 + 5 * k) / sumV w 8)), some (.int (aheadI w q k + (if k < q ∧ 0 < w (8 + 5 * k) then 1 else 0))), some (.int (y + 1))]
          rw [if_pos ⟨by simp only [ti_le, hy, hq1] at b65; omega, by simp only [ti_lt, ti_le] at *; omega⟩]
          rfl
  refine z_aload_n G dX1_shareOf_0 rfl ?_
  refine z_V G lk_X1_100 dX1_shareOf_1 [] rfl rfl rfl (Nat.le_of_ble_eq_true rfl) ⟨Nat.le_refl _, Nat.le_refl _⟩ (by assumption) ?_
  refine k_X1_allVisits hG hvis ?_
  refine z_istore_n G dX1_shareOf_4 (Nat.le_of_ble_eq_true rfl) rfl ?_
  refine z_iload_n G dX1_shareOf_5 rfl ?_
  refine z_if_lt G 28 dX1_shareOf_6 (by decide) (fun c => absurd c (by simp only [ti_lt, ti_le, Int32.reduceToInt, hq1]; omega)) (fun _ => ?_)
  refine z_iload_n G dX1_shareOf_9 rfl ?_
  refine z_bipush G (v := 8) dX1_shareOf_10 (by decide) ?_
  refine z_icmp_ge G 28 dX1_shareOf_12 (by decide) (fun c => absurd c (by simp only [ti_lt, ti_le, Int32.reduceToInt, hq1]; omega)) (fun _ => ?_)
  refine z_aload_n G dX1_shareOf_15 rfl ?_
  refine z_getR G fl_X1_20 rfl dX1_shareOf_16 (by assumption) (by assumption) ?_
  refine z_iload_n G dX1_shareOf_19 rfl ?_
  refine z_iald G (q) dX1_shareOf_20 (by assumption) (hq1) (by omega) ?_
  rw [hvis q (by omega)]
  refine z_if_eq G 28 dX1_shareOf_21 (by decide) (fun b21 => ?_) (fun b21 => ?_)
  · refine z_iconst G (v := 0) dX1_shareOf_28 (by decide) ?_
    exact z_iret G hq dX1_shareOf_29 (h0 b21)
  · refine z_iload_n G dX1_shareOf_24 rfl ?_
    refine z_if_gt G 30 dX1_shareOf_25 (by decide) (fun b25 => ?_) (fun b25 => ?_)
    · refine z_iload_n G dX1_shareOf_30 rfl ?_
      refine z_istore G dX1_shareOf_31 (Nat.le_of_ble_eq_true rfl) rfl ?_
      refine z_iconst G (v := 0) dX1_shareOf_33 (by decide) ?_
      refine z_istore G dX1_shareOf_34 (Nat.le_of_ble_eq_true rfl) rfl ?_
      refine z_iconst G (v := 0) dX1_shareOf_36 (by decide) ?_
      refine z_istore G dX1_shareOf_37 (Nat.le_of_ble_eq_true rfl) rfl ?_
      exact loop b21 8 0 0 rfl rfl
    · refine z_iconst G (v := 0) dX1_shareOf_28 (by decide) ?_
      exact z_iret G hq dX1_shareOf_29 (absurd (sumV_pos hv hn8 hqn b21) (by rw [← sumV_8 hv 8 hn8 (Nat.le_refl _)]; simp only [ti_lt, ti_le, Int32.reduceToInt] at b25; omega))
set_option maxHeartbeats 1000000 in
set_option maxRecDepth 20000 in
theorem k_X9_share {E : pmE} {d : Nat} {S : pmS} {I : pmI} {P : pmP} {R : Option Value → pmS → pmI → pmP → Prop} (hX : XG S P) {n : Nat} {w : Nat → Int32} (hvis : ∀ p, p < 8 → I 33 p = w (8 + 5 * p)) (hv : VV w n) (hn8 : n ≤ 8) (hn : (I 27 2).toInt = (n : Int)) {page x : Int32} (hb : (¬ ∃ q k : Nat, page.toInt = (q : Int) ∧ q < n ∧ x.toInt = (k : Int) ∧ k ≤ 999) → R (some (.int (-1000001))) S I P) (h0 : ∀ q k : Nat, page.toInt = (q : Int) → q < n → x.toInt = (k : Int) → k ≤ 999 → w (8 + 5 * q) = 0 → R (some (.int 0)) S I P) (h1 : ∀ q k : Nat, page.toInt = (q : Int) → q < n → x.toInt = (k : Int) → k ≤ 999 → ¬ w (8 + 5 * q) = 0 → R (some (.int (shareI (w) n q x))) S I P) : pmX E (d + 2) 0 0 yX9_share [rr E 0, .int page, .int x] S I P R := by
  refine pm_of (by decide) cd_X9_share (by decide) (by decide) (Nat.le_of_ble_eq_true rfl) ?_
  intro C G hq
  obtain ⟨⟨a0, a1, a2, a3, a4, a5, a6, a7, a8⟩, hRG, hRdG, hWG, hDG, ⟨z1, z2, z3, z4⟩, hIG, hFG, hAG⟩ := id hX
  refine z_aload_n G dX9_share_0 rfl ?_
  refine z_getR G fl_X9_25 rfl dX9_share_1 (by assumption) (by assumption) ?_
  refine z_iload_n G dX9_share_4 rfl ?_
  refine z_V G lk_X9_179 dX9_share_5 [_] rfl rfl rfl (Nat.le_of_ble_eq_true rfl) ⟨Nat.le_refl _, Nat.le_refl _⟩ hWG.1 ?_
  refine k_X8_hasPage hWG.1 hn ?_ ?_
  · intro q hq1 hq2
    refine z_if_eq G 22 dX9_share_8 (by decide) (fun c => absurd c (by decide)) (fun _ => ?_)
    refine z_iload_n G dX9_share_11 rfl ?_
    refine z_if_lt G 22 dX9_share_12 (by decide) (fun b12 => ?_) (fun b12 => ?_)
    · refine z_ldc G ct_X9_73 dX9_share_22 ?_
      exact z_iret G hq dX9_share_24 (hb (fun ⟨q, k, _, _, q1, q2⟩ => by simp only [ti_lt, ti_le, Int32.reduceToInt] at *; omega))
    · refine z_iload_n G dX9_share_15 rfl ?_
      refine z_sipush G (v := 999) dX9_share_16 (by decide) ?_
      refine z_icmp_le G 25 dX9_share_19 (by decide) (fun b19 => ?_) (fun b19 => ?_)
      · obtain ⟨k, hk1, hk2⟩ : ∃ k : Nat, x.toInt = (k : Int) ∧ k ≤ 999 := ⟨x.toInt.toNat, by simp only [ti_lt, ti_le, Int32.reduceToInt] at *; omega, by simp only [ti_lt, ti_le, Int32.reduceToInt] at *; omega⟩
        refine z_aload_n G dX9_share_25 rfl ?_
        refine z_getR G fl_X9_32 rfl dX9_share_26 (by assumption) (by assumption) ?_
        refine z_iload_n G dX9_share_29 rfl ?_
        refine z_iload_n G dX9_share_30 rfl ?_
        refine z_V G lk_X9_249 dX9_share_31 [_, _] rfl rfl rfl (Nat.le_of_ble_eq_true rfl) ⟨Nat.le_refl _, Nat.le_refl _⟩ hDG.1.1 ?_
        refine k_X1_shareOf hDG hvis hv hn8 hq1 hq2 ?_ ?_
        · intro hz
          exact z_iret G hq dX9_share_34 (h0 q k hq1 hq2 hk1 hk2 hz)
        · intro hz
          exact z_iret G hq dX9_share_34 (h1 q k hq1 hq2 hk1 hk2 hz)
      · refine z_ldc G ct_X9_73 dX9_share_22 ?_
        exact z_iret G hq dX9_share_24 (hb (fun ⟨q, k, _, _, q1, q2⟩ => by simp only [ti_lt, ti_le, Int32.reduceToInt] at *; omega))
  · intro hno
    refine z_if_eq G 22 dX9_share_8 (by decide) (fun _ => ?_) (fun c => absurd c (by decide))
    refine z_ldc G ct_X9_73 dX9_share_22 ?_
    exact z_iret G hq dX9_share_24 (hb (fun ⟨q, k, q1, q2, _⟩ => hno ⟨q, q1, q2⟩))
set_option maxHeartbeats 1000000 in
set_option maxRecDepth 20000 in
theorem k_X10_share {E : pmE} {d : Nat} {S : pmS} {I : pmI} {P : pmP} {R : Option Value → pmS → pmI → pmP → Prop} {m : Nat} (hM : MG S P m) {n : Nat} (hv : VV (I (m + 6)) n) (hn8 : n ≤ 8) (hn : (I (m + 6) 0).toInt = (n : Int)) {page x : Int32} (hb : (¬ ∃ q k : Nat, page.toInt = (q : Int) ∧ q < n ∧ x.toInt = (k : Int) ∧ k ≤ 999) → R (some (.int (-1000001))) S I P) (h0 : ∀ q k : Nat, page.toInt = (q : Int) → q < n → x.toInt = (k : Int) → k ≤ 999 → I (m + 6) (8 + 5 * q) = 0 → R (some (.int 0)) S I P) (h1 : ∀ q k : Nat, page.toInt = (q : Int) → q < n → x.toInt = (k : Int) → k ≤ 999 → ¬ I (m + 6) (8 + 5 * q) = 0 → R (some (.int (shareI (I (m + 6)) n q x))) S I P) : pmX E (d + 2) 0 0 yX10_share [rr E m, .int page, .int x] S I P R := by
  refine pm_of (by decide) cd_X10_share (by decide) (by decide) (Nat.le_of_ble_eq_true rfl) ?_
  intro C G hq
  obtain ⟨g0, ⟨r0, r1, r2, r3, r4, r5, r6, r7, r8, r9, r10, r11, r12, r13, r14⟩, ⟨s1, s2, s3, s4, s5, s6, s7, s8, s9, s10, s11, s12, s13, s14, s15⟩⟩ := id hM
  have loop : ∀ (q z : Nat), page.toInt = (q : Int) → q < n → x.toInt = (z : Int) → z ≤ 999 → ¬ I (m + 6) (8 + 5 * q) = 0 → ∀ (r k : Nat) (y : Int32) (o9 : Option Value), y.toInt = (k : Int) → k + r = n → pmZ E C 60 [some (rr E m), some (.int page), some (.int x), some (.int (sumV (I (m + 6)) n)), some (.int (I (m + 6) (8 + 5 * q))), some (.int (overI (I (m + 6)) x (sumV (I (m + 6)) n) k)), some (.int (aheadI (I (m + 6)) q k)), some (.int y), o9] [] S I P 0 0 := by
    intro q z hq1 hq2 hk1 hk2 hz r
    have hpos := sumV_pos hv hn8 hq2 hz
    have hne : ¬ sumV (I (m + 6)) n = 0 := fun z => by rw [z] at hpos; simp only [Int32.reduceToInt] at hpos; omega
    induction r with
    | zero =>
      intro k y o9 hy hr
      obtain rfl : k = n := by omega
      refine z_iload G dX10_share_60 rfl ?_
      refine z_aload_n G dX10_share_62 rfl ?_
      refine z_getR G fl_X10_25 rfl dX10_share_63 (by assumption) (by assumption) ?_
      refine z_iconst G (v := 0) dX10_share_66 (by decide) ?_
      refine z_iald G (0) dX10_share_67 (by assumption) (rfl) (by omega) ?_
      refine z_icmp_ge G 124 dX10_share_68 (by decide) (fun _ => ?_) (fun c => absurd c (fun z => z (by simp (disch := omega) only [iN_lit, iN_add, iN_sub, iN_mul, iN_an, iN_le, iN_lt, iN_eq, iN_of hy, iN_of hn] <;> omega)))
      refine z_iload_n G dX10_share_124 rfl ?_
      refine z_iload G dX10_share_125 rfl ?_
      refine z_imul G dX10_share_127 ?_
      refine z_iload_n G dX10_share_128 rfl ?_
      refine z_idiv G dX10_share_129 hne ?_
      refine z_iload G dX10_share_130 rfl ?_
      refine z_iload G dX10_share_132 rfl ?_
      refine z_icmp_ge G 141 dX10_share_134 (by decide) (fun b134 => ?_) (fun b134 => ?_)
      · refine z_iconst G (v := 0) dX10_share_141 (by decide) ?_
        refine z_iadd G dX10_share_142 ?_
        exact z_iret G hq dX10_share_143 (by have := h1 q z hq1 hq2 hk1 hk2 hz; unfold shareI at this; rw [if_neg (by simp only [ti_lt, ti_le] at *; omega)] at this; exact this)
      · refine z_iconst G (v := 1) dX10_share_137 (by decide) ?_
        refine z_goto G 142 dX10_share_138 (by decide) ?_
        refine z_iadd G dX10_share_142 ?_
        exact z_iret G hq dX10_share_143 (by have := h1 q z hq1 hq2 hk1 hk2 hz; unfold shareI at this; rw [if_pos (by simp only [ti_lt, ti_le] at *; omega)] at this; exact this)
    | succ r ih =>
      intro k y o9 hy hr
      refine z_iload G dX10_share_60 rfl ?_
      refine z_aload_n G dX10_share_62 rfl ?_
      refine z_getR G fl_X10_25 rfl dX10_share_63 (by assumption) (by assumption) ?_
      refine z_iconst G (v := 0) dX10_share_66 (by decide) ?_
      refine z_iald G (0) dX10_share_67 (by assumption) (rfl) (by omega) ?_
      refine z_icmp_ge G 124 dX10_share_68 (by decide) (fun c => absurd c (by simp (disch := omega) only [iN_lit, iN_add, iN_sub, iN_mul, iN_an, iN_le, iN_lt, iN_eq, iN_of hy, iN_of hn]; omega)) (fun _ => ?_)
      refine z_aload_n G dX10_share_71 rfl ?_
      refine z_getR G fl_X10_25 rfl dX10_share_72 (by assumption) (by assumption) ?_
      refine z_iconst G (v := 4) dX10_share_75 (by decide) ?_
      refine z_iconst G (v := 5) dX10_share_76 (by decide) ?_
      refine z_iload G dX10_share_77 rfl ?_
      refine z_imul G dX10_share_79 ?_
      refine z_iadd G dX10_share_80 ?_
      refine z_iconst G (v := 4) dX10_share_81 (by decide) ?_
      refine z_iadd G dX10_share_82 ?_
      refine z_iald G (8 + 5 * k) dX10_share_83 (by assumption) (by simp (disch := omega) only [iN_lit, iN_add, iN_sub, iN_mul, iN_an, iN_of hy]; exact iN_ti2 (by omega) (by omega)) (by omega) ?_
      refine z_istore G dX10_share_84 (Nat.le_of_ble_eq_true rfl) rfl ?_
      refine z_iload G dX10_share_86 rfl ?_
      refine z_iload_n G dX10_share_88 rfl ?_
      refine z_iload G dX10_share_89 rfl ?_
      refine z_imul G dX10_share_91 ?_
      refine z_iload_n G dX10_share_92 rfl ?_
      refine z_idiv G dX10_share_93 hne ?_
      refine z_isub G dX10_share_94 ?_
      refine z_istore G dX10_share_95 (Nat.le_of_ble_eq_true rfl) rfl ?_
      refine z_iload G dX10_share_97 rfl ?_
      refine z_iload G dX10_share_99 rfl ?_
      refine z_iload_n G dX10_share_101 rfl ?_
      refine z_icmp_ge G 114 dX10_share_102 (by decide) (fun b102 => ?_) (fun b102 => ?_)
      · refine z_iconst G (v := 0) dX10_share_114 (by decide) ?_
        refine z_iadd G dX10_share_115 ?_
        refine z_istore G dX10_share_116 (Nat.le_of_ble_eq_true rfl) rfl ?_
        refine z_iinc G (v := 1) dX10_share_118 (by decide) rfl rfl ?_
        refine z_goto G 60 dX10_share_121 (by decide) ?_
        refine z_eq rfl ?_ rfl rfl rfl (ih (k + 1) (y + 1) (some (.int (I (m + 6) (8 + 5 * k)))) (by simp (disch := omega) only [iN_lit, iN_add, iN_sub, iN_mul, iN_an, iN_of hy]; exact iN_ti2 (by omega) (by omega)) (by omega))
        show _ = [some (rr E m), some (.int page), some (.int x), some (.int (sumV (I (m + 6)) n)), some (.int (I (m + 6) (8 + 5 * q))), some (.int (overI (I (m + 6)) x (sumV (I (m + 6)) n) k - x * I (m + 6) (8 + 5 * k) / sumV (I (m + 6)) n)), some (.int (aheadI (I (m + 6)) q k + (if k < q ∧ 0 < I (m + 6) (8 + 5 * k) then 1 else 0))), some (.int (y + 1)), some (.int (I (m + 6) (8 + 5 * k)))]
        rw [if_neg (fun z => by simp only [ti_le, hy, hq1] at b102; omega)]
        rfl
      · refine z_iload G dX10_share_105 rfl ?_
        refine z_if_le G 114 dX10_share_107 (by decide) (fun b107 => ?_) (fun b107 => ?_)
        · refine z_iconst G (v := 0) dX10_share_114 (by decide) ?_
          refine z_iadd G dX10_share_115 ?_
          refine z_istore G dX10_share_116 (Nat.le_of_ble_eq_true rfl) rfl ?_
          refine z_iinc G (v := 1) dX10_share_118 (by decide) rfl rfl ?_
          refine z_goto G 60 dX10_share_121 (by decide) ?_
          refine z_eq rfl ?_ rfl rfl rfl (ih (k + 1) (y + 1) (some (.int (I (m + 6) (8 + 5 * k)))) (by simp (disch := omega) only [iN_lit, iN_add, iN_sub, iN_mul, iN_an, iN_of hy]; exact iN_ti2 (by omega) (by omega)) (by omega))
          show _ = [some (rr E m), some (.int page), some (.int x), some (.int (sumV (I (m + 6)) n)), some (.int (I (m + 6) (8 + 5 * q))), some (.int (overI (I (m + 6)) x (sumV (I (m + 6)) n) k - x * I (m + 6) (8 + 5 * k) / sumV (I (m + 6)) n)), some (.int (aheadI (I (m + 6)) q k + (if k < q ∧ 0 < I (m + 6) (8 + 5 * k) then 1 else 0))), some (.int (y + 1)), some (.int (I (m + 6) (8 + 5 * k)))]
          rw [if_neg (fun z => by have := z.2; simp only [ti_lt, ti_le] at *; omega)]
          rfl
        · refine z_iconst G (v := 1) dX10_share_110 (by decide) ?_
          refine z_goto G 115 dX10_share_111 (by decide) ?_
          refine z_iadd G dX10_share_115 ?_
          refine z_istore G dX10_share_116 (Nat.le_of_ble_eq_true rfl) rfl ?_
          refine z_iinc G (v := 1) dX10_share_118 (by decide) rfl rfl ?_
          refine z_goto G 60 dX10_share_121 (by decide) ?_
          refine z_eq rfl ?_ rfl rfl rfl (ih (k + 1) (y + 1) (some (.int (I (m + 6) (8 + 5 * k)))) (by simp (disch := omega) only [iN_lit, iN_add, iN_sub, iN_mul, iN_an, iN_of hy]; exact iN_ti2 (by omega) (by omega)) (by omega))
          show _ = [some (rr E m), some (.int page), some (.int x), some (.int (sumV (I (m + 6)) n)), some (.int (I (m + 6) (8 + 5 * q))), some (.int (overI (I (m + 6)) x (sumV (I (m + 6)) n) k - x * I (m + 6) (8 + 5 * k) / sumV (I (m + 6)) n)), some (.int (aheadI (I (m + 6)) q k + (if k < q ∧ 0 < I (m + 6) (8 + 5 * k) then 1 else 0))), some (.int (y + 1)), some (.int (I (m + 6) (8 + 5 * k)))]
          rw [if_pos ⟨by simp only [ti_le, hy, hq1] at b102; omega, by simp only [ti_lt, ti_le] at *; omega⟩]
          rfl
  refine z_aload_n G dX10_share_0 rfl ?_
  refine z_iload_n G dX10_share_1 rfl ?_
  refine z_V G lk_X10_205 dX10_share_2 [_] rfl rfl rfl (Nat.le_of_ble_eq_true rfl) ⟨Nat.le_refl _, Nat.le_refl _⟩ (by assumption) ?_
  refine k_X10_isPage hM hn (by omega) ?_ ?_
  · intro q hq1 hq2
    refine z_if_eq G 19 dX10_share_5 (by decide) (fun c => absurd c (by decide)) (fun _ => ?_)
    refine z_iload_n G dX10_share_8 rfl ?_
    refine z_iconst G (v := 0) dX10_share_9 (by decide) ?_
    refine z_sipush G (v := 999) dX10_share_10 (by decide) ?_
    refine z_S G lk_X10_62 dX10_share_13 [_, _, _] rfl rfl rfl (Nat.le_of_ble_eq_true rfl) ⟨Nat.le_refl _, Nat.le_refl _⟩ ?_
    refine k_X10_in ?_ ?_
    · intro hin
      refine z_if_ne G 22 dX10_share_16 (by decide) (fun _ => ?_) (fun c => absurd c (by decide))
      obtain ⟨k, hk1, hk2⟩ : ∃ k : Nat, x.toInt = (k : Int) ∧ k ≤ 999 := ⟨x.toInt.toNat, by simp only [ti_lt, ti_le, Int32.reduceToInt] at hin; omega, by simp only [ti_lt, ti_le, Int32.reduceToInt] at hin; omega⟩
      refine z_aload_n G dX10_share_22 rfl ?_
      refine z_getR G fl_X10_25 rfl dX10_share_23 (by assumption) (by assumption) ?_
      refine z_S G lk_X10_224 dX10_share_26 [_] rfl rfl rfl (Nat.le_of_ble_eq_true rfl) ⟨Nat.le_refl _, Nat.le_refl _⟩ ?_
      refine k_X10_visitsOf s6 hn hn8 ?_
      refine z_istore_n G dX10_share_29 (Nat.le_of_ble_eq_true rfl) rfl ?_
      refine z_aload_n G dX10_share_30 rfl ?_
      refine z_getR G fl_X10_25 rfl dX10_share_31 (by assumption) (by assumption) ?_
      refine z_iconst G (v := 4) dX10_share_34 (by decide) ?_
      refine z_iconst G (v := 5) dX10_share_35 (by decide) ?_
      refine z_iload_n G dX10_share_36 rfl ?_
      refine z_imul G dX10_share_37 ?_
      refine z_iadd G dX10_share_38 ?_
      refine z_iconst G (v := 4) dX10_share_39 (by decide) ?_
      refine z_iadd G dX10_share_40 ?_
      refine z_iald G (8 + 5 * q) dX10_share_41 (by assumption) (by simp (disch := omega) only [iN_lit, iN_add, iN_sub, iN_mul, iN_an, iN_of hq1]; exact iN_ti2 (by omega) (by omega)) (by omega) ?_
      refine z_istore G dX10_share_42 (Nat.le_of_ble_eq_true rfl) rfl ?_
      refine z_iload G dX10_share_44 rfl ?_
      refine z_if_ne G 51 dX10_share_46 (by decide) (fun b46 => ?_) (fun b46 => ?_)
      · refine z_iload_n G dX10_share_51 rfl ?_
        refine z_istore G dX10_share_52 (Nat.le_of_ble_eq_true rfl) rfl ?_
        refine z_iconst G (v := 0) dX10_share_54 (by decide) ?_
        refine z_istore G dX10_share_55 (Nat.le_of_ble_eq_true rfl) rfl ?_
        refine z_iconst G (v := 0) dX10_share_57 (by decide) ?_
        refine z_istore G dX10_share_58 (Nat.le_of_ble_eq_true rfl) rfl ?_
        exact loop q k hq1 hq2 hk1 hk2 b46 n 0 0 _ rfl (by omega)
      · refine z_iconst G (v := 0) dX10_share_49 (by decide) ?_
        exact z_iret G hq dX10_share_50 (h0 q k hq1 hq2 hk1 hk2 b46)
    · intro hin
      refine z_if_ne G 22 dX10_share_16 (by decide) (fun c => absurd c (by decide)) (fun _ => ?_)
      refine z_ldc G ct_X10_70 dX10_share_19 ?_
      exact z_iret G hq dX10_share_21 (hb (fun ⟨q, k, _, _, q1, q2⟩ => hin (by simp only [ti_lt, ti_le, Int32.reduceToInt]; omega)))
  · intro hno
    refine z_if_eq G 19 dX10_share_5 (by decide) (fun _ => ?_) (fun c => absurd c (by decide))
    refine z_ldc G ct_X10_70 dX10_share_19 ?_
    exact z_iret G hq dX10_share_21 (hb (fun ⟨q, k, q1, q2, _⟩ => hno ⟨q, q1, q2⟩))
