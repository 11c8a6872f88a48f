def isK (its kind : Int32) : Prop := kind = 0 ∨ kind = its ∨ (kind = 1 ∧ its < 4) ∨ (kind = 4 ∧ its = 5)
set_option maxHeartbeats 1000000 in
set_option maxRecDepth 20000 in
theorem k_X7_isOf {E : pmE} {d : Nat} {S : pmS} {I : pmI} {P : pmP} {R : Option Value → pmS → pmI → pmP → Prop} {t sd : Nat} {kind : Int32} (hG : TabG S P t) (hs : (I t 1).toInt = (sd : Int)) (h1s : 1 ≤ sd) (h5s : sd ≤ 5) (h1 : isK (I t 1) kind → R (some (.int 1)) S I P) (h0 : ¬ isK (I t 1) kind → R (some (.int 0)) S I P) : pmX E d 0 0 yX7_isOf [rr E t, .int kind] S I P R := by
  refine pm_of (by decide) cd_X7_isOf (by decide) (by decide) (Nat.le_of_ble_eq_true rfl) ?_
  intro C G hq
  obtain ⟨g1, g2, g3⟩ := hG
  have hk : I t 1 = 1 ∨ I t 1 = 2 ∨ I t 1 = 3 ∨ I t 1 = 4 ∨ I t 1 = 5 := by
    simp only [ti_eq, hs, Int32.reduceToInt]; omega
  have An : ∀ (y : Int32) (k : Nat), y.toInt = (k : Int) → k ≤ 5 → ¬ isK (I t 1) kind → pmZ E C 7 [some (rr E t), some (.int kind), some (.int (-1)), some (.int y)] [] S I P 0 0 := by
    intro y k hy hk pn
    refine z_iload_n G dX7_isOf_7 rfl ?_
    refine z_getsN G 0 (by decide) fs_X7_37 rfl dX7_isOf_8 ?_
    refine z_tlen G 0 (by decide) dX7_isOf_11 ?_
    refine z_icmp_ge G 46 dX7_isOf_12 (by decide) (fun c => absurd c (by simp (disch := omega) only [iN_lit, iN_add, iN_sub, iN_mul, iN_an, iN_le, iN_lt, iN_eq, iN_of hy]; omega)) (fun _ => ?_)
    refine z_iload_n G dX7_isOf_15 rfl ?_
    refine z_if_lt G 46 dX7_isOf_16 (by decide) (fun _ => ?_) (fun c => absurd c (by decide))
    refine z_iconst G (v := 0) dX7_isOf_46 (by decide) ?_
    exact z_zret G hq dX7_isOf_47 rfl (h0 pn)
  have A0 : ∀ (y : Int32) (k : Nat), y.toInt = (k : Int) → k + 1 ≤ 5 → (kind = 0 → isK (I t 1) kind) → (¬ kind = 0 → ¬ isK (I t 1) kind) → pmZ E C 7 [some (rr E t), some (.int kind), some (.int 0), some (.int y)] [] S I P 0 0 := by
    intro y k hy hk p0 pn
    refine z_iload_n G dX7_isOf_7 rfl ?_
    refine z_getsN G 0 (by decide) fs_X7_37 rfl dX7_isOf_8 ?_
    refine z_tlen G 0 (by decide) dX7_isOf_11 ?_
    refine z_icmp_ge G 46 dX7_isOf_12 (by decide) (fun c => absurd c (by simp (disch := omega) only [iN_lit, iN_add, iN_sub, iN_mul, iN_an, iN_le, iN_lt, iN_eq, iN_of hy]; omega)) (fun _ => ?_)
    refine z_iload_n G dX7_isOf_15 rfl ?_
    refine z_if_lt G 46 dX7_isOf_16 (by decide) (fun c => absurd c (by decide)) (fun _ => ?_)
    refine z_iload_n G dX7_isOf_19 rfl ?_
    refine z_getsN G 0 (by decide) fs_X7_37 rfl dX7_isOf_20 ?_
    refine z_tlen G 0 (by decide) dX7_isOf_23 ?_
    refine z_icmp_ge G 46 dX7_isOf_24 (by decide) (fun c => absurd c (by decide)) (fun _ => ?_)
    refine z_iload_n G dX7_isOf_27 rfl ?_
    refine z_iload_n G dX7_isOf_28 rfl ?_
    refine z_icmp_ne G 34 dX7_isOf_29 (by decide) (fun b29 => ?_) (fun b29 => ?_)
    · refine z_getsN G 0 (by decide) fs_X7_37 rfl dX7_isOf_34 ?_
      refine z_iload_n G dX7_isOf_37 rfl ?_
      refine z_tald G 0 (0) (by decide) dX7_isOf_38 (rfl) (by decide) ?_
      refine z_istore_n G dX7_isOf_39 (Nat.le_of_ble_eq_true rfl) rfl ?_
      refine z_iinc G (v := 1) dX7_isOf_40 (by decide) rfl rfl ?_
      refine z_goto G 7 dX7_isOf_43 (by decide) ?_
      exact An _ (k + 1) (by simp (disch := omega) only [iN_lit, iN_add, iN_sub, iN_mul, iN_an, iN_of hy]; exact iN_ti2 (by omega) (by omega)) (by omega) (pn (fun z => b29 z.symm))
    · refine z_iconst G (v := 1) dX7_isOf_32 (by decide) ?_
      exact z_zret G hq dX7_isOf_33 rfl (h1 (p0 b29.symm))
  have A1 : ∀ (y : Int32) (k : Nat), y.toInt = (k : Int) → k + 2 ≤ 5 → (kind = 1 → isK (I t 1) kind) → (kind = 0 → isK (I t 1) kind) → (¬ kind = 1 → ¬ kind = 0 → ¬ isK (I t 1) kind) → pmZ E C 7 [some (rr E t), some (.int kind), some (.int 1), some (.int y)] [] S I P 0 0 := by
    intro y k hy hk p1 p0 pn
    refine z_iload_n G dX7_isOf_7 rfl ?_
    refine z_getsN G 0 (by decide) fs_X7_37 rfl dX7_isOf_8 ?_
    refine z_tlen G 0 (by decide) dX7_isOf_11 ?_
    refine z_icmp_ge G 46 dX7_isOf_12 (by decide) (fun c => absurd c (by simp (disch := omega) only [iN_lit, iN_add, iN_sub, iN_mul, iN_an, iN_le, iN_lt, iN_eq, iN_of hy]; omega)) (fun _ => ?_)
    refine z_iload_n G dX7_isOf_15 rfl ?_
    refine z_if_lt G 46 dX7_isOf_16 (by decide) (fun c => absurd c (by decide)) (fun _ => ?_)
    refine z_iload_n G dX7_isOf_19 rfl ?_
    refine z_getsN G 0 (by decide) fs_X7_37 rfl dX7_isOf_20 ?_
    refine z_tlen G 0 (by decide) dX7_isOf_23 ?_
    refine z_icmp_ge G 46 dX7_isOf_24 (by decide) (fun c => absurd c (by decide)) (fun _ => ?_)
    refine z_iload_n G dX7_isOf_27 rfl ?_
    refine z_iload_n G dX7_isOf_28 rfl ?_
    refine z_icmp_ne G 34 dX7_isOf_29 (by decide) (fun b29 => ?_) (fun b29 => ?_)
    · refine z_getsN G 0 (by decide) fs_X7_37 rfl dX7_isOf_34 ?_
      refine z_iload_n G dX7_isOf_37 rfl ?_
      refine z_tald G 0 (1) (by decide) dX7_isOf_38 (rfl) (by decide) ?_
      refine z_istore_n G dX7_isOf_39 (Nat.le_of_ble_eq_true rfl) rfl ?_
      refine z_iinc G (v := 1) dX7_isOf_40 (by decide) rfl rfl ?_
      refine z_goto G 7 dX7_isOf_43 (by decide) ?_
      exact A0 _ (k + 1) (by simp (disch := omega) only [iN_lit, iN_add, iN_sub, iN_mul, iN_an, iN_of hy]; exact iN_ti2 (by omega) (by omega)) (by omega) p0 (pn (fun z => b29 z.symm))
    · refine z_iconst G (v := 1) dX7_isOf_32 (by decide) ?_
      exact z_zret G hq dX7_isOf_33 rfl (h1 (p1 b29.symm))
  have A4 : ∀ (y : Int32) (k : Nat), y.toInt = (k : Int) → k + 2 ≤ 5 → (kind = 4 → isK (I t 1) kind) → (kind = 0 → isK (I t 1) kind) → (¬ kind = 4 → ¬ kind = 0 → ¬ isK (I t 1) kind) → pmZ E C 7 [some (rr E t), some (.int kind), some (.int 4), some (.int y)] [] S I P 0 0 := by
    intro y k hy hk p4 p0 pn
    refine z_iload_n G dX7_isOf_7 rfl ?_
    refine z_getsN G 0 (by decide) fs_X7_37 rfl dX7_isOf_8 ?_
    refine z_tlen G 0 (by decide) dX7_isOf_11 ?_
    refine z_icmp_ge G 46 dX7_isOf_12 (by decide) (fun c => absurd c (by simp (disch := omega) only [iN_lit, iN_add, iN_sub, iN_mul, iN_an, iN_le, iN_lt, iN_eq, iN_of hy]; omega)) (fun _ => ?_)
    refine z_iload_n G dX7_isOf_15 rfl ?_
    refine z_if_lt G 46 dX7_isOf_16 (by decide) (fun c => absurd c (by decide)) (fun _ => ?_)
    refine z_iload_n G dX7_isOf_19 rfl ?_
    refine z_getsN G 0 (by decide) fs_X7_37 rfl dX7_isOf_20 ?_
    refine z_tlen G 0 (by decide) dX7_isOf_23 ?_
    refine z_icmp_ge G 46 dX7_isOf_24 (by decide) (fun c => absurd c (by decide)) (fun _ => ?_)
    refine z_iload_n G dX7_isOf_27 rfl ?_
    refine z_iload_n G dX7_isOf_28 rfl ?_
    refine z_icmp_ne G 34 dX7_isOf_29 (by decide) (fun b29 => ?_) (fun b29 => ?_)
    · refine z_getsN G 0 (by decide) fs_X7_37 rfl dX7_isOf_34 ?_
      refine z_iload_n G dX7_isOf_37 rfl ?_
      refine z_tald G 0 (4) (by decide) dX7_isOf_38 (rfl) (by decide) ?_
      refine z_istore_n G dX7_isOf_39 (Nat.le_of_ble_eq_true rfl) rfl ?_
      refine z_iinc G (v := 1) dX7_isOf_40 (by decide) rfl rfl ?_
      refine z_goto G 7 dX7_isOf_43 (by decide) ?_
      exact A0 _ (k + 1) (by simp (disch := omega) only [iN_lit, iN_add, iN_sub, iN_mul, iN_an, iN_of hy]; exact iN_ti2 (by omega) (by omega)) (by omega) p0 (pn (fun z => b29 z.symm))
    · refine z_iconst G (v := 1) dX7_isOf_32 (by decide) ?_
      exact z_zret G hq dX7_isOf_33 rfl (h1 (p4 b29.symm))
  have A2 : ∀ (y : Int32) (k : Nat), y.toInt = (k : Int) → k + 3 ≤ 5 → (kind = 2 → isK (I t 1) kind) → (kind = 1 → isK (I t 1) kind) → (kind = 0 → isK (I t 1) kind) → (¬ kind = 2 → ¬ kind = 1 → ¬ kind = 0 → ¬ isK (I t 1) kind) → pmZ E C 7 [some (rr E t), some (.int kind), some (.int 2), some (.int y)] [] S I P 0 0 := by
    intro y k hy hk p2 p1 p0 pn
    refine z_iload_n G dX7_isOf_7 rfl ?_
    refine z_getsN G 0 (by decide) fs_X7_37 rfl dX7_isOf_8 ?_
    refine z_tlen G 0 (by decide) dX7_isOf_11 ?_
    refine z_icmp_ge G 46 dX7_isOf_12 (by decide) (fun c => absurd c (by simp (disch := omega) only [iN_lit, iN_add, iN_sub, iN_mul, iN_an, iN_le, iN_lt, iN_eq, iN_of hy]; omega)) (fun _ => ?_)
    refine z_iload_n G dX7_isOf_15 rfl ?_
    refine z_if_lt G 46 dX7_isOf_16 (by decide) (fun c => absurd c (by decide)) (fun _ => ?_)
    refine z_iload_n G dX7_isOf_19 rfl ?_
    refine z_getsN G 0 (by decide) fs_X7_37 rfl dX7_isOf_20 ?_
    refine z_tlen G 0 (by decide) dX7_isOf_23 ?_
    refine z_icmp_ge G 46 dX7_isOf_24 (by decide) (fun c => absurd c (by decide)) (fun _ => ?_)
    refine z_iload_n G dX7_isOf_27 rfl ?_
    refine z_iload_n G dX7_isOf_28 rfl ?_
    refine z_icmp_ne G 34 dX7_isOf_29 (by decide) (fun b29 => ?_) (fun b29 => ?_)
    · refine z_getsN G 0 (by decide) fs_X7_37 rfl dX7_isOf_34 ?_
      refine z_iload_n G dX7_isOf_37 rfl ?_
      refine z_tald G 0 (2) (by decide) dX7_isOf_38 (rfl) (by decide) ?_
      refine z_istore_n G dX7_isOf_39 (Nat.le_of_ble_eq_true rfl) rfl ?_
      refine z_iinc G (v := 1) dX7_isOf_40 (by decide) rfl rfl ?_
      refine z_goto G 7 dX7_isOf_43 (by decide) ?_
      exact A1 _ (k + 1) (by simp (disch := omega) only [iN_lit, iN_add, iN_sub, iN_mul, iN_an, iN_of hy]; exact iN_ti2 (by omega) (by omega)) (by omega) p1 p0 (pn (fun z => b29 z.symm))
    · refine z_iconst G (v := 1) dX7_isOf_32 (by decide) ?_
      exact z_zret G hq dX7_isOf_33 rfl (h1 (p2 b29.symm))
  have A3 : ∀ (y : Int32) (k : Nat), y.toInt = (k : Int) → k + 3 ≤ 5 → (kind = 3 → isK (I t 1) kind) → (kind = 1 → isK (I t 1) kind) → (kind = 0 → isK (I t 1) kind) → (¬ kind = 3 → ¬ kind = 1 → ¬ kind = 0 → ¬ isK (I t 1) kind) → pmZ E C 7 [some (rr E t), some (.int kind), some (.int 3), some (.int y)] [] S I P 0 0 := by
    intro y k hy hk p3 p1 p0 pn
    refine z_iload_n G dX7_isOf_7 rfl ?_
    refine z_getsN G 0 (by decide) fs_X7_37 rfl dX7_isOf_8 ?_
    refine z_tlen G 0 (by decide) dX7_isOf_11 ?_
    refine z_icmp_ge G 46 dX7_isOf_12 (by decide) (fun c => absurd c (by simp (disch := omega) only [iN_lit, iN_add, iN_sub, iN_mul, iN_an, iN_le, iN_lt, iN_eq, iN_of hy]; omega)) (fun _ => ?_)
    refine z_iload_n G dX7_isOf_15 rfl ?_
    refine z_if_lt G 46 dX7_isOf_16 (by decide) (fun c => absurd c (by decide)) (fun _ => ?_)
    refine z_iload_n G dX7_isOf_19 rfl ?_
    refine z_getsN G 0 (by decide) fs_X7_37 rfl dX7_isOf_20 ?_
    refine z_tlen G 0 (by decide) dX7_isOf_23 ?_
    refine z_icmp_ge G 46 dX7_isOf_24 (by decide) (fun c => absurd c (by decide)) (fun _ => ?_)
    refine z_iload_n G dX7_isOf_27 rfl ?_
    refine z_iload_n G dX7_isOf_28 rfl ?_
    refine z_icmp_ne G 34 dX7_isOf_29 (by decide) (fun b29 => ?_) (fun b29 => ?_)
    · refine z_getsN G 0 (by decide) fs_X7_37 rfl dX7_isOf_34 ?_
      refine z_iload_n G dX7_isOf_37 rfl ?_
      refine z_tald G 0 (3) (by decide) dX7_isOf_38 (rfl) (by decide) ?_
      refine z_istore_n G dX7_isOf_39 (Nat.le_of_ble_eq_true rfl) rfl ?_
      refine z_iinc G (v := 1) dX7_isOf_40 (by decide) rfl rfl ?_
      refine z_goto G 7 dX7_isOf_43 (by decide) ?_
      exact A1 _ (k + 1) (by simp (disch := omega) only [iN_lit, iN_add, iN_sub, iN_mul, iN_an, iN_of hy]; exact iN_ti2 (by omega) (by omega)) (by omega) p1 p0 (pn (fun z => b29 z.symm))
    · refine z_iconst G (v := 1) dX7_isOf_32 (by decide) ?_
      exact z_zret G hq dX7_isOf_33 rfl (h1 (p3 b29.symm))
  have A5 : ∀ (y : Int32) (k : Nat), y.toInt = (k : Int) → k + 3 ≤ 5 → (kind = 5 → isK (I t 1) kind) → (kind = 4 → isK (I t 1) kind) → (kind = 0 → isK (I t 1) kind) → (¬ kind = 5 → ¬ kind = 4 → ¬ kind = 0 → ¬ isK (I t 1) kind) → pmZ E C 7 [some (rr E t), some (.int kind), some (.int 5), some (.int y)] [] S I P 0 0 := by
    intro y k hy hk p5 p4 p0 pn
    refine z_iload_n G dX7_isOf_7 rfl ?_
    refine z_getsN G 0 (by decide) fs_X7_37 rfl dX7_isOf_8 ?_
    refine z_tlen G 0 (by decide) dX7_isOf_11 ?_
    refine z_icmp_ge G 46 dX7_isOf_12 (by decide) (fun c => absurd c (by simp (disch := omega) only [iN_lit, iN_add, iN_sub, iN_mul, iN_an, iN_le, iN_lt, iN_eq, iN_of hy]; omega)) (fun _ => ?_)
    refine z_iload_n G dX7_isOf_15 rfl ?_
    refine z_if_lt G 46 dX7_isOf_16 (by decide) (fun c => absurd c (by decide)) (fun _ => ?_)
    refine z_iload_n G dX7_isOf_19 rfl ?_
    refine z_getsN G 0 (by decide) fs_X7_37 rfl dX7_isOf_20 ?_
    refine z_tlen G 0 (by decide) dX7_isOf_23 ?_
    refine z_icmp_ge G 46 dX7_isOf_24 (by decide) (fun c => absurd c (by decide)) (fun _ => ?_)
    refine z_iload_n G dX7_isOf_27 rfl ?_
    refine z_iload_n G dX7_isOf_28 rfl ?_
    refine z_icmp_ne G 34 dX7_isOf_29 (by decide) (fun b29 => ?_) (fun b29 => ?_)
    · refine z_getsN G 0 (by decide) fs_X7_37 rfl dX7_isOf_34 ?_
      refine z_iload_n G dX7_isOf_37 rfl ?_
      refine z_tald G 0 (5) (by decide) dX7_isOf_38 (rfl) (by decide) ?_
      refine z_istore_n G dX7_isOf_39 (Nat.le_of_ble_eq_true rfl) rfl ?_
      refine z_iinc G (v := 1) dX7_isOf_40 (by decide) rfl rfl ?_
      refine z_goto G 7 dX7_isOf_43 (by decide) ?_
      exact A4 _ (k + 1) (by simp (disch := omega) only [iN_lit, iN_add, iN_sub, iN_mul, iN_an, iN_of hy]; exact iN_ti2 (by omega) (by omega)) (by omega) p4 p0 (pn (fun z => b29 z.symm))
    · refine z_iconst G (v := 1) dX7_isOf_32 (by decide) ?_
      exact z_zret G hq dX7_isOf_33 rfl (h1 (p5 b29.symm))
  rcases hk with hsv | hsv | hsv | hsv | hsv
  · refine z_aload_n G dX7_isOf_0 rfl ?_
    refine z_getI G fl_X7_15 rfl dX7_isOf_1 (by assumption) ?_
    rw [hsv]
    refine z_istore_n G dX7_isOf_4 (Nat.le_of_ble_eq_true rfl) rfl ?_
    refine z_iconst G (v := 0) dX7_isOf_5 (by decide) ?_
    refine z_istore_n G dX7_isOf_6 (Nat.le_of_ble_eq_true rfl) rfl ?_
    exact A1 0 0 rfl (by omega) (fun z => by unfold isK; rw [hsv, z]; decide) (fun z => by unfold isK; rw [hsv, z]; decide) (fun n1 n0 q => by unfold isK at q; rw [hsv] at q; rcases q with q | q | q | q <;> first | exact absurd q (by assumption) | exact absurd q.1 (by assumption) | exact absurd q.2 (by decide))
  · refine z_aload_n G dX7_isOf_0 rfl ?_
    refine z_getI G fl_X7_15 rfl dX7_isOf_1 (by assumption) ?_
    rw [hsv]
    refine z_istore_n G dX7_isOf_4 (Nat.le_of_ble_eq_true rfl) rfl ?_
    refine z_iconst G (v := 0) dX7_isOf_5 (by decide) ?_
    refine z_istore_n G dX7_isOf_6 (Nat.le_of_ble_eq_true rfl) rfl ?_
    exact A2 0 0 rfl (by omega) (fun z => by unfold isK; rw [hsv, z]; decide) (fun z => by unfold isK; rw [hsv, z]; decide) (fun z => by unfold isK; rw [hsv, z]; decide) (fun n2 n1 n0 q => by unfold isK at q; rw [hsv] at q; rcases q with q | q | q | q <;> first | exact absurd q (by assumption) | exact absurd q.1 (by assumption) | exact absurd q.2 (by decide))
  · refine z_aload_n G dX7_isOf_0 rfl ?_
    refine z_getI G fl_X7_15 rfl dX7_isOf_1 (by assumption) ?_
    rw [hsv]
    refine z_istore_n G dX7_isOf_4 (Nat.le_of_ble_eq_true rfl) rfl ?_
    refine z_iconst G (v := 0) dX7_isOf_5 (by decide) ?_
    refine z_istore_n G dX7_isOf_6 (Nat.le_of_ble_eq_true rfl) rfl ?_
    exact A3 0 0 rfl (by omega) (fun z => by unfold isK; rw [hsv, z]; decide) (fun z => by unfold isK; rw [hsv, z]; decide) (fun z => by unfold isK; rw [hsv, z]; decide) (fun n3 n1 n0 q => by unfold isK at q; rw [hsv] at q; rcases q with q | q | q | q <;> first | exact absurd q (by assumption) | exact absurd q.1 (by assumption) | exact absurd q.2 (by decide))
  · refine z_aload_n G dX7_isOf_0 rfl ?_
    refine z_getI G fl_X7_15 rfl dX7_isOf_1 (by assumption) ?_
    rw [hsv]
    refine z_istore_n G dX7_isOf_4 (Nat.le_of_ble_eq_true rfl) rfl ?_
    refine z_iconst G (v := 0) dX7_isOf_5 (by decide) ?_
    refine z_istore_n G dX7_isOf_6 (Nat.le_of_ble_eq_true rfl) rfl ?_
    exact A4 0 0 rfl (by omega) (fun z => by unfold isK; rw [hsv, z]; decide) (fun z => by unfold isK; rw [hsv, z]; decide) (fun n4 n0 q => by unfold isK at q; rw [hsv] at q; rcases q with q | q | q | q <;> first | exact absurd q (by assumption) | exact absurd q.1 (by assumption) | exact absurd q.2 (by decide))
  · refine z_aload_n G dX7_isOf_0 rfl ?_
    refine z_getI G fl_X7_15 rfl dX7_isOf_1 (by assumption) ?_
    rw [hsv]
    refine z_istore_n G dX7_isOf_4 (Nat.le_of_ble_eq_true rfl) rfl ?_
    refine z_iconst G (v := 0) dX7_isOf_5 (by decide) ?_
    refine z_istore_n G dX7_isOf_6 (Nat.le_of_ble_eq_true rfl) rfl ?_
    exact A5 0 0 rfl (by omega) (fun z => by unfold isK; rw [hsv, z]; decide) (fun z => by unfold isK; rw [hsv, z]; decide) (fun z => by unfold isK; rw [hsv, z]; decide) (fun n5 n4 n0 q => by unfold isK at q; rw [hsv] at q; rcases q with q | q | q | q <;> first | exact absurd q (by assumption) | exact absurd q.1 (by assumption) | exact absurd q.2 (by decide))
set_option maxHeartbeats 1000000 in
set_option maxRecDepth 20000 in
theorem k_X1_visit {E : pmE} {d : Nat} {S : pmS} {I : pmI} {P : pmP} {R : Option Value → pmS → pmI → pmP → Prop} {dk n T t c : Nat} {w : Nat → Int32} (hG : DG S P dk) (hD : DR I P dk w T c) (hV : Vd w n T t c) {p0 : Nat} {page : Int32} (hp0 : page.toInt = (p0 : Int)) (hp8 : p0 < 8) (h : ∀ I', FrD I I' dk → DR I' P dk (visF w p0) T c → R none S I' P) : pmX E d 0 0 yX1_visit [rr E dk, .int page] S I P R := by
  refine pm_of (by decide) cd_X1_visit (by decide) (by decide) (Nat.le_of_ble_eq_true rfl) ?_
  intro C G hq
  obtain ⟨⟨g1, g2, g3, g4, g5, g6, g7⟩, g8, g9, g10, g11, g12⟩ := id hG
  obtain ⟨v1, v2, v3, v4, v5, v6, v7, v8⟩ := id hV
  obtain ⟨d1, d2, d3, d4, d5, d6⟩ := id hD
  refine z_iload_n G dX1_visit_0 rfl ?_
  refine z_if_lt G 32 dX1_visit_1 (by decide) (fun c => absurd c (by simp only [ti_lt, ti_le, Int32.reduceToInt, hp0]; omega)) (fun _ => ?_)
  refine z_iload_n G dX1_visit_4 rfl ?_
  refine z_bipush G (v := 8) dX1_visit_5 (by decide) ?_
  refine z_icmp_ge G 32 dX1_visit_7 (by decide) (fun c => absurd c (by simp only [ti_lt, ti_le, Int32.reduceToInt, hp0]; omega)) (fun _ => ?_)
  refine z_aload_n G dX1_visit_10 rfl ?_
  refine z_getR G fl_X1_20 rfl dX1_visit_11 (by assumption) (by assumption) ?_
  refine z_iload_n G dX1_visit_14 rfl ?_
  refine z_iald G (p0) dX1_visit_15 (by assumption) (hp0) (by omega) ?_
  refine z_sipush G (v := 999) dX1_visit_16 (by decide) ?_
  refine z_icmp_ge G 32 dX1_visit_19 (by decide) (fun b19 => ?_) (fun b19 => ?_)
  · have e6 : ∀ q, q < 8 → I (dk + 3) q = visF w p0 (8 + 5 * q) := by
      intro q hq
      unfold visF
      by_cases hqp : q = p0
      · subst hqp; rw [va_at' rfl, d6 q hq, if_neg (by rw [← d6 q hq]; simp only [ti_lt, ti_le] at *; omega), Int32.add_zero]
      · rw [va_ne' (by omega)]; exact d6 q hq
    exact z_vret G hq dX1_visit_32 (h _ FrD.rf (hD.nums hG (by omega) (by omega) ⟨v6, v7⟩ (fun _ _ _ => rfl) (fun i hi => va_ne' (by omega)) (by rw [d1]; exact (va_ne' (by omega)).symm) (by rw [d2]; exact (va_ne' (by omega)).symm) (by rw [d3]; exact (va_ne' (by omega)).symm) e6))
  · refine z_aload_n G dX1_visit_22 rfl ?_
    refine z_getR G fl_X1_20 rfl dX1_visit_23 (by assumption) (by assumption) ?_
    refine z_iload_n G dX1_visit_26 rfl ?_
    refine z_dup2 G dX1_visit_27 rfl rfl ?_
    refine z_iald G (p0) dX1_visit_28 (by assumption) (hp0) (by omega) ?_
    refine z_iconst G (v := 1) dX1_visit_29 (by decide) ?_
    refine z_iadd G dX1_visit_30 ?_
    refine z_iast G (p0) dX1_visit_31 (by assumption) (hp0) (by omega) ?_
    have e6 : ∀ q, q < 8 → (va_up I (dk + 3) (va_up (I (dk + 3)) p0 (I (dk + 3) p0 + 1))) (dk + 3) q = visF w p0 (8 + 5 * q) := by
      intro q hq
      rw [va_at' rfl]
      unfold visF
      by_cases hqp : q = p0
      · subst hqp; rw [va_at' rfl, va_at' rfl, d6 q hq, if_pos (by rw [← d6 q hq]; simp only [ti_lt, ti_le] at *; omega)]
      · rw [va_ne' hqp, va_ne' (by omega)]; exact d6 q hq
    exact z_vret G hq dX1_visit_32 (h _ (fun k hk => va_ne' (by omega)) (hD.nums hG (by omega) (by omega) ⟨v6, v7⟩ (fun k k1 k2 => va_ne' k2) (fun i hi => va_ne' (by omega)) (by rw [va_ne' (by omega), d1]; exact (va_ne' (by omega)).symm) (by rw [va_ne' (by omega), d2]; exact (va_ne' (by omega)).symm) (by rw [va_ne' (by omega), d3]; exact (va_ne' (by omega)).symm) e6))
set_option maxHeartbeats 1000000 in
set_option maxRecDepth 20000 in
theorem k_X1_stepBack {E : pmE} {d : Nat} {S : pmS} {I : pmI} {P : pmP} {R : Option Value → pmS → pmI → pmP → Prop} {dk n T t c : Nat} {w : Nat → Int32} (hG : DG S P dk) (hD : DR I P dk w T c) (hV : Vd w n T t c) (h1 : (¬ w (44 + 10 * t) = 5 ∧ 0 < w (47 + 10 * t)) → ∀ I', FrD I I' dk → DR I' P dk (goesF w t 0) T c → R (some (.int 1)) S I' P) (h0 : ¬ (¬ w (44 + 10 * t) = 5 ∧ 0 < w (47 + 10 * t)) → R (some (.int 0)) S I P) : pmX E (d + 1) 0 0 yX1_stepBack [rr E dk] S I P R := by
  refine pm_of (by decide) cd_X1_stepBack (by decide) (by decide) (Nat.le_of_ble_eq_true rfl) ?_
  intro C G hq
  obtain ⟨⟨g1, g2, g3, g4, g5, g6, g7⟩, g8, g9, g10, g11, g12⟩ := id hG
  obtain ⟨v1, v2, v3, v4, v5, v6, v7, v8⟩ := id hV
  obtain ⟨d1, d2, d3, d4, d5, d6⟩ := id hD
  obtain ⟨tt, ht1, ht2, ht3, ht4⟩ := hG.row (show t < 5 by omega)
  have hTR := d4 t v3.2 tt ht1
  obtain ⟨s, p, hN, hpn⟩ := hV.nw
  have hnow : (I dk 4).toInt = (t : Int) := by rw [d2]; exact v3.1
  have hTI : (I dk 3).toInt = (T : Int) := by rw [d1]; exact v2.1
  have hsh : (I tt 4).toInt = (s : Int) := by rw [hTR.2.2.2.1, show 44 + 10 * t + 3 = 47 + 10 * t by omega]; exact hN.2.2.1
  have hs6 := hN.2.2.2.1
  obtain ⟨kd, hm, l, s2, u1, u2, u3, u4, u5, u6, u7, u8, u9, u10, u11⟩ := v6 t v3.2
  obtain rfl : s = s2 := by have := hN.2.2.1; rw [show 44 + 10 * t + 3 = 47 + 10 * t by omega] at u9; omega
  have hpg : I (tt + 1) s = w (48 + 10 * t + s) := by rw [hTR.2.2.2.2 s (by omega), show 44 + 10 * t + 4 + s = 48 + 10 * t + s by omega]
  have e1 : I tt 1 = w (44 + 10 * t) := hTR.1
  have e4 : I tt 4 = w (47 + 10 * t) := by rw [hTR.2.2.2.1, show 44 + 10 * t + 3 = 47 + 10 * t by omega]
  have e3 : I tt 3 = w (46 + 10 * t) := by rw [hTR.2.2.1, show 44 + 10 * t + 2 = 46 + 10 * t by omega]
  refine z_aload_n G dX1_stepBack_0 rfl ?_
  refine z_aload_n G dX1_stepBack_1 rfl ?_
  refine z_getI G fl_X1_28 rfl dX1_stepBack_2 (by assumption) ?_
  refine z_V G lk_X1_45 dX1_stepBack_5 [_] rfl rfl rfl (Nat.le_of_ble_eq_true rfl) ⟨Nat.le_refl _, Nat.le_refl _⟩ (by assumption) ?_
  refine k_X1_hasTab g1 hTI (by omega) (fun p2 q1 q2 => ?_) (fun q => absurd ⟨t, hnow, v3.2⟩ q)
  refine z_if_eq G 30 dX1_stepBack_8 (by decide) (fun c => absurd c (by decide)) (fun _ => ?_)
  refine z_aload_n G dX1_stepBack_11 rfl ?_
  refine z_getR G fl_X1_11 rfl dX1_stepBack_12 (by assumption) (by assumption) ?_
  refine z_aload_n G dX1_stepBack_15 rfl ?_
  refine z_getI G fl_X1_28 rfl dX1_stepBack_16 (by assumption) ?_
  refine z_aald G 5 (t) rfl (by decide) dX1_stepBack_19 (by assumption) (hnow) (by omega) (by assumption) ?_
  refine z_V G lk_X1_83 dX1_stepBack_20 [] rfl rfl rfl (Nat.le_of_ble_eq_true rfl) ⟨Nat.le_refl _, Nat.le_refl _⟩ ht2.1 ?_
  refine k_X7_stepBack ht2 ?_ ?_
  · intro hc
    refine z_if_eq G 30 dX1_stepBack_23 (by decide) (fun c => absurd c (by decide)) (fun _ => ?_)
    refine z_iconst G (v := 1) dX1_stepBack_26 (by decide) ?_
    refine z_goto G 31 dX1_stepBack_27 (by decide) ?_
    exact z_zret G hq dX1_stepBack_31 rfl (h1 (by rw [← e1, ← e4]; exact hc) _ (fun k hk => va_ne' (by omega)) (hD.tab hG (by omega) (by omega) hV ht1 (fun k k1 k2 => va_ne' k1) (fun i hi => goes_off (by omega)) (hTR.goes (by rw [goes_0 rfl, e4]))))
  · intro hc
    refine z_if_eq G 30 dX1_stepBack_23 (by decide) (fun _ => ?_) (fun c => absurd c (by decide))
    refine z_iconst G (v := 0) dX1_stepBack_30 (by decide) ?_
    exact z_zret G hq dX1_stepBack_31 rfl (h0 (by rw [← e1, ← e4]; exact hc))
set_option maxHeartbeats 1000000 in
set_option maxRecDepth 20000 in
theorem k_X1_stepForward {E : pmE} {d : Nat} {S : pmS} {I : pmI} {P : pmP} {R : Option Value → pmS → pmI → pmP → Prop} {dk n T t c : Nat} {w : Nat → Int32} (hG : DG S P dk) (hD : DR I P dk w T c) (hV : Vd w n T t c) (h1 : (¬ w (44 + 10 * t) = 5 ∧ w (47 + 10 * t) + 1 < w (46 + 10 * t)) → ∀ I', FrD I I' dk → DR I' P dk (goesF w t 1) T c → R (some (.int 1)) S I' P) (h0 : ¬ (¬ w (44 + 10 * t) = 5 ∧ w (47 + 10 * t) + 1 < w (46 + 10 * t)) → R (some (.int 0)) S I P) : pmX E (d + 1) 0 0 yX1_stepForward [rr E dk] S I P R := by
  refine pm_of (by decide) cd_X1_stepForward (by decide) (by decide) (Nat.le_of_ble_eq_true rfl) ?_
  intro C G hq
  obtain ⟨⟨g1, g2, g3, g4, g5, g6, g7⟩, g8, g9, g10, g11, g12⟩ := id hG
  obtain ⟨v1, v2, v3, v4, v5, v6, v7, v8⟩ := id hV
  obtain ⟨d1, d2, d3, d4, d5, d6⟩ := id hD
  obtain ⟨tt, ht1, ht2, ht3, ht4⟩ := hG.row (show t < 5 by omega)
  have hTR := d4 t v3.2 tt ht1
  obtain ⟨s, p, hN, hpn⟩ := hV.nw
  have hnow : (I dk 4).toInt = (t : Int) := by rw [d2]; exact v3.1
  have hTI : (I dk 3).toInt = (T : Int) := by rw [d1]; exact v2.1
  have hsh : (I tt 4).toInt = (s : Int) := by rw [hTR.2.2.2.1, show 44 + 10 * t + 3 = 47 + 10 * t by omega]; exact hN.2.2.1
  have hs6 := hN.2.2.2.1
  obtain ⟨kd, hm, l, s2, u1, u2, u3, u4, u5, u6, u7, u8, u9, u10, u11⟩ := v6 t v3.2
  obtain rfl : s = s2 := by have := hN.2.2.1; rw [show 44 + 10 * t + 3 = 47 + 10 * t by omega] at u9; omega
  have hpg : I (tt + 1) s = w (48 + 10 * t + s) := by rw [hTR.2.2.2.2 s (by omega), show 44 + 10 * t + 4 + s = 48 + 10 * t + s by omega]
  have e1 : I tt 1 = w (44 + 10 * t) := hTR.1
  have e4 : I tt 4 = w (47 + 10 * t) := by rw [hTR.2.2.2.1, show 44 + 10 * t + 3 = 47 + 10 * t by omega]
  have e3 : I tt 3 = w (46 + 10 * t) := by rw [hTR.2.2.1, show 44 + 10 * t + 2 = 46 + 10 * t by omega]
  refine z_aload_n G dX1_stepForward_0 rfl ?_
  refine z_aload_n G dX1_stepForward_1 rfl ?_
  refine z_getI G fl_X1_28 rfl dX1_stepForward_2 (by assumption) ?_
  refine z_V G lk_X1_45 dX1_stepForward_5 [_] rfl rfl rfl (Nat.le_of_ble_eq_true rfl) ⟨Nat.le_refl _, Nat.le_refl _⟩ (by assumption) ?_
  refine k_X1_hasTab g1 hTI (by omega) (fun p2 q1 q2 => ?_) (fun q => absurd ⟨t, hnow, v3.2⟩ q)
  refine z_if_eq G 30 dX1_stepForward_8 (by decide) (fun c => absurd c (by decide)) (fun _ => ?_)
  refine z_aload_n G dX1_stepForward_11 rfl ?_
  refine z_getR G fl_X1_11 rfl dX1_stepForward_12 (by assumption) (by assumption) ?_
  refine z_aload_n G dX1_stepForward_15 rfl ?_
  refine z_getI G fl_X1_28 rfl dX1_stepForward_16 (by assumption) ?_
  refine z_aald G 5 (t) rfl (by decide) dX1_stepForward_19 (by assumption) (hnow) (by omega) (by assumption) ?_
  refine z_V G lk_X1_86 dX1_stepForward_20 [] rfl rfl rfl (Nat.le_of_ble_eq_true rfl) ⟨Nat.le_refl _, Nat.le_refl _⟩ ht2.1 ?_
  refine k_X7_stepForward ht2 ?_ ?_
  · intro hc
    refine z_if_eq G 30 dX1_stepForward_23 (by decide) (fun c => absurd c (by decide)) (fun _ => ?_)
    refine z_iconst G (v := 1) dX1_stepForward_26 (by decide) ?_
    refine z_goto G 31 dX1_stepForward_27 (by decide) ?_
    exact z_zret G hq dX1_stepForward_31 rfl (h1 (by rw [← e1, ← e4, ← e3]; exact hc) _ (fun k hk => va_ne' (by omega)) (hD.tab hG (by omega) (by omega) hV ht1 (fun k k1 k2 => va_ne' k1) (fun i hi => goes_off (by omega)) (hTR.goes (by rw [goes_1 rfl, e4]))))
  · intro hc
    refine z_if_eq G 30 dX1_stepForward_23 (by decide) (fun _ => ?_) (fun c => absurd c (by decide))
    refine z_iconst G (v := 0) dX1_stepForward_30 (by decide) ?_
    exact z_zret G hq dX1_stepForward_31 rfl (h0 (by rw [← e1, ← e4, ← e3]; exact hc))
set_option maxHeartbeats 1000000 in
set_option maxRecDepth 20000 in
theorem k_X1_selectTab {E : pmE} {d : Nat} {S : pmS} {I : pmI} {P : pmP} {R : Option Value → pmS → pmI → pmP → Prop} {dk n T t c : Nat} {w : Nat → Int32} (hG : DG S P dk) (hD : DR I P dk w T c) (hV : Vd w n T t c) {i : Nat} {tab : Int32} (hi : tab.toInt = (i : Int)) (hiT : i < T) (h1 : ¬ tab = w 2 → ∀ I', FrD I I' dk → DR I' P dk (va_up w 2 tab) T c → R (some (.int 1)) S I' P) (h0 : tab = w 2 → R (some (.int 0)) S I P) : pmX E (d + 1) 0 0 yX1_selectTab [rr E dk, .int tab] S I P R := by
  refine pm_of (by decide) cd_X1_selectTab (by decide) (by decide) (Nat.le_of_ble_eq_true rfl) ?_
  intro C G hq
  obtain ⟨⟨g1, g2, g3, g4, g5, g6, g7⟩, g8, g9, g10, g11, g12⟩ := id hG
  obtain ⟨v1, v2, v3, v4, v5, v6, v7, v8⟩ := id hV
  obtain ⟨d1, d2, d3, d4, d5, d6⟩ := id hD
  have hTI : (I dk 3).toInt = (T : Int) := by rw [d1]; exact v2.1
  refine z_aload_n G dX1_selectTab_0 rfl ?_
  refine z_iload_n G dX1_selectTab_1 rfl ?_
  refine z_V G lk_X1_45 dX1_selectTab_2 [_] rfl rfl rfl (Nat.le_of_ble_eq_true rfl) ⟨Nat.le_refl _, Nat.le_refl _⟩ (by assumption) ?_
  refine k_X1_hasTab g1 hTI (by omega) (fun p2 q1 q2 => ?_) (fun q => absurd ⟨i, hi, hiT⟩ q)
  refine z_if_eq G 16 dX1_selectTab_5 (by decide) (fun c => absurd c (by decide)) (fun _ => ?_)
  refine z_iload_n G dX1_selectTab_8 rfl ?_
  refine z_aload_n G dX1_selectTab_9 rfl ?_
  refine z_getI G fl_X1_28 rfl dX1_selectTab_10 (by assumption) ?_
  refine z_icmp_ne G 18 dX1_selectTab_13 (by decide) (fun b13 => ?_) (fun b13 => ?_)
  · refine z_aload_n G dX1_selectTab_18 rfl ?_
    refine z_iload_n G dX1_selectTab_19 rfl ?_
    refine z_putI G fl_X1_28 ft_1_4 rfl rfl rfl dX1_selectTab_20 (by assumption) ?_
    refine z_iconst G (v := 1) dX1_selectTab_23 (by decide) ?_
    exact z_zret G hq dX1_selectTab_24 rfl (h1 (by rw [← d2]; exact b13) _ (fun k hk => va_ne' (by omega)) (hD.nums hG (by omega) (by omega) ⟨v6, v7⟩ (fun k k1 k2 => va_ne' k1) (fun i hi => va_ne' (by omega)) (by simp (disch := omega) only [va_at', va_ne', va_up_up]; exact d1) (by simp (disch := omega) only [va_at', va_ne', va_up_up]) (by simp (disch := omega) only [va_at', va_ne', va_up_up]; exact d3) (fun q hq => by simp (disch := omega) only [va_at', va_ne', va_up_up]; exact d6 q hq)))
  · refine z_iconst G (v := 0) dX1_selectTab_16 (by decide) ?_
    exact z_zret G hq dX1_selectTab_17 rfl (h0 (by rw [← d2]; exact b13))
