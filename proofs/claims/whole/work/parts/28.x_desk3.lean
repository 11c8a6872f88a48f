set_option maxHeartbeats 1000000 in
set_option maxRecDepth 20000 in
theorem k_X1_openPage {E : pmE} {d : Nat} {S : pmS} {I : pmI} {P : pmP} {R : Option Value → pmS → pmI → pmP → Prop} {dk n T t c : Nat} {w : Nat → Int32} (hG : DG S P dk) (hD : DR I P dk w T c) (hV : Vd w n T t c) {q : Nat} {page : Int32} (hq5 : page.toInt = (q : Int)) (hqn : q < n) (h1 : T < 5 → ∀ I' P', FrD I I' dk → FrP P P' dk → DG S P' dk → DR I' P' dk (opensF w T page) (T + 1) c → R (some (.int 1)) S I' P') (h0 : ¬ T < 5 → R (some (.int 0)) S I P) : pmX E (d + 2) 0 0 yX1_openPage [rr E dk, .int page] S I P R := by
  refine pm_of (by decide) cd_X1_openPage (by decide) (by decide) (Nat.le_of_ble_eq_true rfl) ?_
  intro C G hq
  obtain ⟨⟨g1, g2, g3, g4, g5, g6, g7⟩, g8, g9, g10, g11, g12⟩ := id hG
  obtain ⟨v1, v2, v3, v4, v5, v6, v7, v8⟩ := id hV
  obtain ⟨d1, d2, d3, d4, d5, d6⟩ := id hD
  have hTI : (I dk 3).toInt = (T : Int) := by rw [d1]; exact v2.1
  refine z_aload_n G dX1_openPage_0 rfl ?_
  refine z_V G lk_X1_67 dX1_openPage_1 [] rfl rfl rfl (Nat.le_of_ble_eq_true rfl) ⟨Nat.le_refl _, Nat.le_refl _⟩ (by assumption) ?_
  refine k_X1_hasRoom g1 hTI ?_ ?_
  · intro hroom
    refine z_if_ne G 9 dX1_openPage_4 (by decide) (fun _ => ?_) (fun c => absurd c (by decide))
    obtain ⟨f, hf, hf2, hf3, hf4⟩ := hG.row hroom
    have hf2' := hf2.congr (show (va_up P (dk + 1) (rotF (P (dk + 1)) T T)) f = P f from va_ne' (by omega))
    refine z_aload_n G dX1_openPage_9 rfl ?_
    refine z_aload_n G dX1_openPage_10 rfl ?_
    refine z_getI G fl_X1_24 rfl dX1_openPage_11 (by assumption) ?_
    refine z_V G lk_X1_71 dX1_openPage_14 [_] rfl rfl rfl (Nat.le_of_ble_eq_true rfl) ⟨Nat.le_refl _, Nat.le_refl _⟩ (by assumption) ?_
    refine k_X1_addTab hG hTI hroom (q := T) hTI (Nat.le_refl _) hf ?_
    refine z_iconst G (v := 1) dX1_openPage_17 (by decide) ?_
    refine z_iload_n G dX1_openPage_18 rfl ?_
    refine z_V G lk_X1_75 dX1_openPage_19 [_, _] rfl rfl rfl (Nat.le_of_ble_eq_true rfl) ⟨Nat.le_refl _, Nat.le_refl _⟩ hf2'.1 ?_
    refine k_X7_begin hf2' (fun I' f1 f2 => ?_)
    have hD2 : DR I' (va_up P (dk + 1) (rotF (P (dk + 1)) T T)) dk (insF w T T (w 1) page) (T + 1) c := hD.ins hG hV hroom (Nat.le_refl _) v2.1 hf f1 f2
    have hG2 := hG.rot (Nat.le_refl T) hroom
    have hV2 := hV.ins hroom v2.1 (Nat.le_refl _) hq5 hqn
    refine z_aload_n G dX1_openPage_22 rfl ?_
    refine z_iload_n G dX1_openPage_23 rfl ?_
    refine z_V G lk_X1_80 dX1_openPage_24 [_] rfl rfl rfl (Nat.le_of_ble_eq_true rfl) ⟨Nat.le_refl _, Nat.le_refl _⟩ (by assumption) ?_
    refine k_X1_visit hG2 hD2 hV2 hq5 (by omega) (fun I2 m1 m2 => ?_)
    refine z_iconst G (v := 1) dX1_openPage_27 (by decide) ?_
    exact z_zret G hq dX1_openPage_28 rfl (h1 hroom I2 _ (FrD.tr (fun k hk => (f1 k (by omega) (by omega)).trans (va_ne' (by omega))) m1) (fun k k1 k2 => va_ne' k1) hG2 (by unfold opensF; rw [see_ins (Nat.le_refl _) v2.1 hq5]; exact m2))
  · intro hroom
    refine z_if_ne G 9 dX1_openPage_4 (by decide) (fun c => absurd c (by decide)) (fun _ => ?_)
    refine z_iconst G (v := 0) dX1_openPage_7 (by decide) ?_
    exact z_zret G hq dX1_openPage_8 rfl (h0 hroom)
set_option maxHeartbeats 1000000 in
set_option maxRecDepth 20000 in
theorem k_X1_reopen {E : pmE} {d : Nat} {S : pmS} {I : pmI} {P : pmP} {R : Option Value → pmS → pmI → pmP → Prop} {dk n T t c : Nat} {w : Nat → Int32} (hG : DG S P dk) (hD : DR I P dk w T c) (hV : Vd w n T t c) (h1 : 1 ≤ c → T < 5 → ∀ I' P', FrD I I' dk → FrP P P' dk → DG S P' dk → DR I' P' dk (againF w T c) (T + 1) (c - 1) → R (some (.int 1)) S I' P') (h0 : ¬ (1 ≤ c ∧ T < 5) → R (some (.int 0)) S I P) : pmX E (d + 2) 0 0 yX1_reopen [rr E dk] S I P R := by
  refine pm_of (by decide) cd_X1_reopen (by decide) (by decide) (Nat.le_of_ble_eq_true rfl) ?_
  intro C G hq
  obtain ⟨⟨g1, g2, g3, g4, g5, g6, g7⟩, g8, g9, g10, g11, g12⟩ := id hG
  obtain ⟨v1, v2, v3, v4, v5, v6, v7, v8⟩ := id hV
  obtain ⟨d1, d2, d3, d4, d5, d6⟩ := id hD
  have hTI : (I dk 3).toInt = (T : Int) := by rw [d1]; exact v2.1
  have hcI : (I dk 5).toInt = (c : Int) := by rw [d3]; exact v4.1
  refine z_aload_n G dX1_reopen_0 rfl ?_
  refine z_getI G fl_X1_31 rfl dX1_reopen_1 (by assumption) ?_
  refine z_iconst G (v := 1) dX1_reopen_4 (by decide) ?_
  refine z_icmp_lt G 23 dX1_reopen_5 (by decide) (fun b5 => ?_) (fun b5 => ?_)
  · refine z_iconst G (v := 0) dX1_reopen_23 (by decide) ?_
    exact z_zret G hq dX1_reopen_24 rfl (h0 (fun q => by simp only [ti_lt, ti_le, Int32.reduceToInt, hcI] at b5; omega))
  · refine z_aload_n G dX1_reopen_8 rfl ?_
    refine z_getI G fl_X1_31 rfl dX1_reopen_9 (by assumption) ?_
    refine z_iconst G (v := 3) dX1_reopen_12 (by decide) ?_
    refine z_icmp_gt G 23 dX1_reopen_13 (by decide) (fun c => absurd c (by simp only [ti_lt, ti_le, Int32.reduceToInt, hcI]; omega)) (fun _ => ?_)
    refine z_aload_n G dX1_reopen_16 rfl ?_
    refine z_V G lk_X1_67 dX1_reopen_17 [] rfl rfl rfl (Nat.le_of_ble_eq_true rfl) ⟨Nat.le_refl _, Nat.le_refl _⟩ (by assumption) ?_
    refine k_X1_hasRoom g1 hTI ?_ ?_
    · intro hroom
      refine z_if_ne G 25 dX1_reopen_20 (by decide) (fun _ => ?_) (fun c => absurd c (by decide))
      have hc1 : 1 ≤ c := by simp only [ti_lt, ti_le, Int32.reduceToInt, hcI] at b5; omega
      obtain ⟨f, hf, hf2, hf3, hf4⟩ := hG.row hroom
      obtain ⟨u, hu, hu2, hu3, hu4⟩ := hG.cl (show c - 1 < 3 by omega)
      have hf2' := hf2.congr (show (va_up P (dk + 1) (rotF (P (dk + 1)) T T)) f = P f from va_ne' (by omega))
      have hu2' := hu2.congr (show (va_up P (dk + 1) (rotF (P (dk + 1)) T T)) u = P u from va_ne' (by omega))
      refine z_aload_n G dX1_reopen_25 rfl ?_
      refine z_dup G dX1_reopen_26 rfl ?_
      refine z_getI G fl_X1_31 rfl dX1_reopen_27 (by assumption) ?_
      refine z_iconst G (v := 1) dX1_reopen_30 (by decide) ?_
      refine z_isub G dX1_reopen_31 ?_
      refine z_top (y := iN (c - 1)) (by simp (disch := omega) only [iN_lit, iN_add, iN_sub, iN_mul, iN_an, iN_of hcI] <;> exact congrArg iN (by omega)) ?_
      refine z_putI G fl_X1_31 ft_1_5 rfl rfl rfl dX1_reopen_32 (by assumption) ?_
      refine z_aload_n G dX1_reopen_35 rfl ?_
      refine z_aload_n G dX1_reopen_36 rfl ?_
      refine z_getI G fl_X1_24 rfl dX1_reopen_37 (by assumption) ?_
      refine z_V G lk_X1_71 dX1_reopen_40 [_] rfl rfl rfl (Nat.le_of_ble_eq_true rfl) ⟨Nat.le_refl _, Nat.le_refl _⟩ (by assumption) ?_
      refine k_X1_addTab hG (T := T) (by rw [va_at' rfl, va_ne' (by omega)]; exact hTI) hroom (q := T) (by rw [va_at' rfl, va_ne' (by omega)]; exact hTI) (Nat.le_refl _) hf ?_
      try simp (disch := omega) only [va_at', va_ne', va_up_up]
      refine z_aload_n G dX1_reopen_43 rfl ?_
      refine z_getR G fl_X1_17 rfl dX1_reopen_44 (by assumption) (by rw [va_ne' (by omega)]; assumption) ?_
      refine z_aload_n G dX1_reopen_47 rfl ?_
      refine z_getI G fl_X1_31 rfl dX1_reopen_48 (by assumption) ?_
      try simp (disch := omega) only [va_at', va_ne', va_up_up]
      refine z_aald G 5 (c - 1) rfl (by decide) dX1_reopen_51 (by assumption) (iN_ti (by omega)) (by omega) (by rw [va_ne' (by omega)]; exact hu) ?_
      refine z_V G lk_X1_35 dX1_reopen_52 [_] rfl rfl rfl (Nat.le_of_ble_eq_true rfl) ⟨Nat.le_refl _, Nat.le_refl _⟩ hf2'.1 ?_
      refine k_X7_become hf2' hu2' (by omega) (fun I' f1 f2 f3 => ?_)
      refine z_iconst G (v := 1) dX1_reopen_55 (by decide) ?_
      exact z_zret G hq dX1_reopen_56 rfl (h1 hc1 hroom I' _ (fun k hk => by rw [f1 k (by omega) (by omega)]; simp (disch := omega) only [va_at', va_ne', va_up_up]) (fun k k1 k2 => va_ne' k1) (hG.rot (Nat.le_refl T) hroom) (hD.again hG hV hroom hc1 hf hu (fun k k1 k2 k3 => by rw [f1 k k2 k3]; simp (disch := omega) only [va_at', va_ne', va_up_up]) (by rw [f1 _ (by omega) (by omega)]; simp (disch := omega) only [va_at', va_ne', va_up_up]) (by rw [f1 _ (by omega) (by omega)]; simp (disch := omega) only [va_at', va_ne', va_up_up]) (by rw [f1 _ (by omega) (by omega)]; simp (disch := omega) only [va_at', va_ne', va_up_up]) ⟨fun j a b => by rw [f2 j a b]; simp (disch := omega) only [va_at', va_ne', va_up_up], fun j a => by rw [f3 j a]; simp (disch := omega) only [va_at', va_ne', va_up_up]⟩))
    · intro hroom
      refine z_if_ne G 25 dX1_reopen_20 (by decide) (fun c => absurd c (by decide)) (fun _ => ?_)
      refine z_iconst G (v := 0) dX1_reopen_23 (by decide) ?_
      exact z_zret G hq dX1_reopen_24 rfl (h0 (fun q => hroom q.2))
set_option maxHeartbeats 1000000 in
set_option maxRecDepth 20000 in
theorem k_X1_keepClosed {E : pmE} {d : Nat} {S : pmS} {I : pmI} {P : pmP} {R : Option Value → pmS → pmI → pmP → Prop} {dk n T t c : Nat} {w : Nat → Int32} (hG : DG S P dk) (hD : DR I P dk w T c) (hV : Vd w n T t c) {tt : Nat} (htt : P (dk + 1) t = some tt) (hk : w (44 + 10 * t) < 4) (h : ∀ I' P', FrD I I' dk → FrP P P' dk → P' (dk + 1) = P (dk + 1) → DG S P' dk → DR I' P' dk (keepF w t c) T (keepC w t c) → R none S I' P') : pmX E (d + 2) 0 0 yX1_keepClosed [rr E dk, rr E tt] S I P R := by
  refine pm_of (by decide) cd_X1_keepClosed (by decide) (by decide) (Nat.le_of_ble_eq_true rfl) ?_
  intro C G hq
  obtain ⟨⟨g1, g2, g3, g4, g5, g6, g7⟩, g8, g9, g10, g11, g12⟩ := id hG
  obtain ⟨v1, v2, v3, v4, v5, v6, v7, v8⟩ := id hV
  obtain ⟨d1, d2, d3, d4, d5, d6⟩ := id hD
  have hTI : (I dk 3).toInt = (T : Int) := by rw [d1]; exact v2.1
  have hcI : (I dk 5).toInt = (c : Int) := by rw [d3]; exact v4.1
  obtain ⟨x1, x2, x3⟩ := hG.row_in (show t < 5 by omega) htt
  obtain ⟨u0, y0, z0, a0, a0'⟩ := hG.cl (show 0 < 3 by omega)
  obtain ⟨u1, y1, z1, a1, a1'⟩ := hG.cl (show 1 < 3 by omega)
  obtain ⟨u2, y2, z2, a2, a2'⟩ := hG.cl (show 2 < 3 by omega)
  refine z_aload_n G dX1_keepClosed_0 rfl ?_
  refine z_getI G fl_X1_31 rfl dX1_keepClosed_1 (by assumption) ?_
  refine z_iconst G (v := 3) dX1_keepClosed_4 (by decide) ?_
  refine z_icmp_lt G 54 dX1_keepClosed_5 (by decide) (fun b5 => ?_) (fun b5 => ?_)
  · have hc3 : c < 3 := by simp only [ti_lt, ti_le, Int32.reduceToInt, hcI] at b5; omega
    obtain ⟨u, hu, hu2, hu3, hu4⟩ := hG.cl hc3
    refine z_aload_n G dX1_keepClosed_54 rfl ?_
    refine z_getR G fl_X1_17 rfl dX1_keepClosed_55 (by assumption) (by assumption) ?_
    refine z_aload_n G dX1_keepClosed_58 rfl ?_
    refine z_getI G fl_X1_31 rfl dX1_keepClosed_59 (by assumption) ?_
    refine z_aald G 5 (c) rfl (by decide) dX1_keepClosed_62 (by assumption) (hcI) (by omega) hu ?_
    refine z_aload_n G dX1_keepClosed_63 rfl ?_
    refine z_V G lk_X1_35 dX1_keepClosed_64 [_] rfl rfl rfl (Nat.le_of_ble_eq_true rfl) ⟨Nat.le_refl _, Nat.le_refl _⟩ hu2.1 ?_
    refine k_X7_become hu2 x1 (by omega) (fun I' f1 f2 f3 => ?_)
    refine z_aload_n G dX1_keepClosed_67 rfl ?_
    refine z_dup G dX1_keepClosed_68 rfl ?_
    refine z_getI G fl_X1_31 rfl dX1_keepClosed_69 (by assumption) ?_
    rw [f1 _ (by omega) (by omega)]
    refine z_iconst G (v := 1) dX1_keepClosed_72 (by decide) ?_
    refine z_iadd G dX1_keepClosed_73 ?_
    refine z_top (y := iN (c + 1)) (by simp (disch := omega) only [iN_lit, iN_add, iN_sub, iN_mul, iN_an, iN_of hcI] <;> exact congrArg iN (by omega)) ?_
    refine z_putI G fl_X1_31 ft_1_5 rfl rfl rfl dX1_keepClosed_74 (by assumption) ?_
    exact z_vret G hq dX1_keepClosed_77 (h _ P (fun k hk => by rw [va_ne' (by omega)]; exact f1 k (by omega) (by omega)) FrP.rf rfl hG (hD.keep hG hV hk hc3 htt hu (fun k k1 k2 k3 => by rw [va_ne' k1]; exact f1 k k2 k3) (by rw [va_at' rfl, va_ne' (by omega), f1 _ (by omega) (by omega)]) (by rw [va_at' rfl, va_ne' (by omega), f1 _ (by omega) (by omega)]) (by rw [va_at' rfl, va_at' rfl]) (fun j a b => by rw [va_ne' (by omega)]; exact f2 j a b) (fun j a => by rw [va_ne' (by omega)]; exact f3 j a)))
  · refine z_aload_n G dX1_keepClosed_8 rfl ?_
    refine z_getR G fl_X1_17 rfl dX1_keepClosed_9 (by assumption) (by assumption) ?_
    refine z_iconst G (v := 0) dX1_keepClosed_12 (by decide) ?_
    refine z_aald G 5 (0) rfl (by decide) dX1_keepClosed_13 (by assumption) (rfl) (by decide) y0 ?_
    refine z_astore_n G dX1_keepClosed_14 (Nat.le_of_ble_eq_true rfl) rfl ?_
    refine z_iconst G (v := 1) dX1_keepClosed_15 (by decide) ?_
    refine z_istore_n G dX1_keepClosed_16 (Nat.le_of_ble_eq_true rfl) rfl ?_
    refine z_iload_n G dX1_keepClosed_17 rfl ?_
    refine z_iconst G (v := 3) dX1_keepClosed_18 (by decide) ?_
    refine z_icmp_ge G 42 dX1_keepClosed_19 (by decide) (fun c => absurd c (by decide)) (fun _ => ?_)
    refine z_aload_n G dX1_keepClosed_22 rfl ?_
    refine z_getR G fl_X1_17 rfl dX1_keepClosed_23 (by assumption) (by (try simp (disch := omega) only [va_ne']); assumption) ?_
    refine z_iload_n G dX1_keepClosed_26 rfl ?_
    refine z_iconst G (v := 1) dX1_keepClosed_27 (by decide) ?_
    refine z_isub G dX1_keepClosed_28 ?_
    refine z_aload_n G dX1_keepClosed_29 rfl ?_
    refine z_getR G fl_X1_17 rfl dX1_keepClosed_30 (by assumption) (by (try simp (disch := omega) only [va_ne']); assumption) ?_
    refine z_iload_n G dX1_keepClosed_33 rfl ?_
    refine z_aald G 5 (1) rfl (by decide) dX1_keepClosed_34 (by assumption) (rfl) (by decide) (by (try simp (disch := omega) only [va_at', va_ne']); assumption) ?_
    refine z_aast G 5 (0) rfl (ci := 7) rfl (by decide) (by decide) dX1_keepClosed_35 (by assumption) (rfl) (by decide) z1.1 ?_
    refine z_iinc G (v := 1) dX1_keepClosed_36 (by decide) rfl rfl ?_
    refine z_goto G 17 dX1_keepClosed_39 (by decide) ?_
    refine z_iload_n G dX1_keepClosed_17 rfl ?_
    refine z_iconst G (v := 3) dX1_keepClosed_18 (by decide) ?_
    refine z_icmp_ge G 42 dX1_keepClosed_19 (by decide) (fun c => absurd c (by decide)) (fun _ => ?_)
    refine z_aload_n G dX1_keepClosed_22 rfl ?_
    refine z_getR G fl_X1_17 rfl dX1_keepClosed_23 (by assumption) (by (try simp (disch := omega) only [va_ne']); assumption) ?_
    refine z_iload_n G dX1_keepClosed_26 rfl ?_
    refine z_iconst G (v := 1) dX1_keepClosed_27 (by decide) ?_
    refine z_isub G dX1_keepClosed_28 ?_
    refine z_aload_n G dX1_keepClosed_29 rfl ?_
    refine z_getR G fl_X1_17 rfl dX1_keepClosed_30 (by assumption) (by (try simp (disch := omega) only [va_ne']); assumption) ?_
    refine z_iload_n G dX1_keepClosed_33 rfl ?_
    refine z_aald G 5 (2) rfl (by decide) dX1_keepClosed_34 (by assumption) (rfl) (by decide) (by (try simp (disch := omega) only [va_at', va_ne']); assumption) ?_
    refine z_aast G 5 (1) rfl (ci := 7) rfl (by decide) (by decide) dX1_keepClosed_35 (by assumption) (rfl) (by decide) z2.1 ?_
    refine z_iinc G (v := 1) dX1_keepClosed_36 (by decide) rfl rfl ?_
    refine z_goto G 17 dX1_keepClosed_39 (by decide) ?_
    refine z_iload_n G dX1_keepClosed_17 rfl ?_
    refine z_iconst G (v := 3) dX1_keepClosed_18 (by decide) ?_
    refine z_icmp_ge G 42 dX1_keepClosed_19 (by decide) (fun _ => ?_) (fun c => absurd c (by decide))
    refine z_aload_n G dX1_keepClosed_42 rfl ?_
    refine z_getR G fl_X1_17 rfl dX1_keepClosed_43 (by assumption) (by (try simp (disch := omega) only [va_ne']); assumption) ?_
    refine z_iconst G (v := 2) dX1_keepClosed_46 (by decide) ?_
    refine z_aload_n G dX1_keepClosed_47 rfl ?_
    refine z_aast G 5 (2) rfl (ci := 7) rfl (by decide) (by decide) dX1_keepClosed_48 (by assumption) (rfl) (by decide) z0.1 ?_
    refine z_aload_n G dX1_keepClosed_49 rfl ?_
    refine z_iconst G (v := 2) dX1_keepClosed_50 (by decide) ?_
    refine z_putI G fl_X1_31 ft_1_5 rfl rfl rfl dX1_keepClosed_51 (by assumption) ?_
    obtain rfl : c = 3 := by simp only [ti_lt, ti_le, Int32.reduceToInt, hcI] at b5; omega
    have eP : va_up (va_up (va_up P (dk + 2) (va_up (P (dk + 2)) 0 (some u1))) (dk + 2) (va_up (va_up P (dk + 2) (va_up (P (dk + 2)) 0 (some u1)) (dk + 2)) 1 (some u2))) (dk + 2) (va_up (va_up (va_up P (dk + 2) (va_up (P (dk + 2)) 0 (some u1))) (dk + 2) (va_up (va_up P (dk + 2) (va_up (P (dk + 2)) 0 (some u1)) (dk + 2)) 1 (some u2)) (dk + 2)) 2 (some u0)) = va_up P (dk + 2) (rotC (P (dk + 2))) := by simp only [va_up_self, va_up_up]; rw [← y0, ← y1, ← y2]; rfl
    rw [eP]
    have z0' := z0.congr (show (va_up P (dk + 2) (rotC (P (dk + 2)))) u0 = P u0 from va_ne' (by omega))
    have x1' := x1.congr (show (va_up P (dk + 2) (rotC (P (dk + 2)))) tt = P tt from va_ne' (by omega))
    refine z_aload_n G dX1_keepClosed_54 rfl ?_
    refine z_getR G fl_X1_17 rfl dX1_keepClosed_55 (by assumption) (by rw [va_ne' (by omega)]; assumption) ?_
    refine z_aload_n G dX1_keepClosed_58 rfl ?_
    refine z_getI G fl_X1_31 rfl dX1_keepClosed_59 (by assumption) ?_
    try simp (disch := omega) only [va_at', va_ne', va_up_up]
    refine z_aald G 5 (2) rfl (by decide) dX1_keepClosed_62 (by assumption) (rfl) (by omega) (by rw [va_up_self, rotC_eq (by omega)]; exact y0) ?_
    refine z_aload_n G dX1_keepClosed_63 rfl ?_
    refine z_V G lk_X1_35 dX1_keepClosed_64 [_] rfl rfl rfl (Nat.le_of_ble_eq_true rfl) ⟨Nat.le_refl _, Nat.le_refl _⟩ z0'.1 ?_
    refine k_X7_become z0' x1' (by omega) (fun I' f1 f2 f3 => ?_)
    refine z_aload_n G dX1_keepClosed_67 rfl ?_
    refine z_dup G dX1_keepClosed_68 rfl ?_
    refine z_getI G fl_X1_31 rfl dX1_keepClosed_69 (by assumption) ?_
    rw [f1 _ (by omega) (by omega)]
    try simp (disch := omega) only [va_at', va_ne', va_up_up]
    refine z_iconst G (v := 1) dX1_keepClosed_72 (by decide) ?_
    refine z_iadd G dX1_keepClosed_73 ?_
    refine z_top (y := iN 3) rfl ?_
    refine z_putI G fl_X1_31 ft_1_5 rfl rfl rfl dX1_keepClosed_74 (by assumption) ?_
    exact z_vret G hq dX1_keepClosed_77 (h _ _ (fun k hk => by rw [va_ne' (by omega), f1 k (by omega) (by omega)]; simp (disch := omega) only [va_at', va_ne', va_up_up]) (fun k k1 k2 => va_ne' k2) (va_ne' (by omega)) hG.rotc (hD.keep3 hG hV hk htt y0 (fun k k1 k2 k3 => by rw [va_ne' k1, f1 k k2 k3]; simp (disch := omega) only [va_at', va_ne', va_up_up]) (by rw [va_at' rfl, va_ne' (by omega), f1 _ (by omega) (by omega)]; simp (disch := omega) only [va_at', va_ne', va_up_up]) (by rw [va_at' rfl, va_ne' (by omega), f1 _ (by omega) (by omega)]; simp (disch := omega) only [va_at', va_ne', va_up_up]) (by rw [va_at' rfl, va_at' rfl]) (fun j a b => by rw [va_ne' (by omega), f2 j a b]; simp (disch := omega) only [va_at', va_ne', va_up_up]) (fun j a => by rw [va_ne' (by omega), f3 j a]; simp (disch := omega) only [va_at', va_ne', va_up_up])))
