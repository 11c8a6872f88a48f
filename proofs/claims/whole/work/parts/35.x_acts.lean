set_option maxHeartbeats 1000000 in
set_option maxRecDepth 20000 in
theorem k_X3_forget {E : pmE} {d : Nat} {S : pmS} {I : pmI} {P : pmP} {R : Option Value → pmS → pmI → pmP → Prop} (ho : OB S 50 3) (h : R none S (va_up I 50 (va_up (I 50) 2 0)) P) : pmX E d 0 0 yX3_forget [rr E 50] S I P R := by
  refine pm_of (by decide) cd_X3_forget (by decide) (by decide) (Nat.le_of_ble_eq_true rfl) ?_
  intro C G hq
  refine z_aload_n G dX3_forget_0 rfl ?_
  refine z_iconst G (v := 0) dX3_forget_1 (by decide) ?_
  refine z_putI G fl_X3_21 ft_3_2 rfl rfl rfl dX3_forget_2 (by assumption) ?_
  exact z_vret G hq dX3_forget_5 (h)
set_option maxHeartbeats 1000000 in
set_option maxRecDepth 20000 in
theorem k_X3_prepare {E : pmE} {d : Nat} {S : pmS} {I : pmI} {P : pmP} {R : Option Value → pmS → pmI → pmP → Prop} (hX : XG S P) {nx : Nat} (hnx : (I 50 1).toInt = (nx : Int)) (hnx25 : nx < 25) {w : Nat → Int32} {T c : Nat} (hD : DR I P 30 w T c) (hT : (w 1).toInt = (T : Int)) (hT5 : T ≤ 5) (hc : (w 3).toInt = (c : Int)) (hc3 : c ≤ 3) (hl : ∀ i, i < T → (w (44 + 10 * i + 2)).toInt ≤ 6) (hl2 : ∀ i, i < c → (w (94 + 10 * i + 2)).toInt ≤ 6) (h : ∀ I', FrD I I' (52 + 20 * nx) → DR I' P (52 + 20 * nx) w T c → R none S I' P) : pmX E (d + 3) 0 0 yX3_prepare [rr E 50, rr E 30] S I P R := by
  refine pm_of (by decide) cd_X3_prepare (by decide) (by decide) (Nat.le_of_ble_eq_true rfl) ?_
  intro C G hq
  obtain ⟨⟨a0, a1, a2, a3, a4, a5, a6, a7, a8⟩, hRG, hRdG, hWG, hDG, ⟨z1, z2, z3, z4⟩, hIG, hFG, hAG⟩ := id hX
  refine z_aload_n G dX3_prepare_0 rfl ?_
  refine z_getR G fl_X3_13 rfl dX3_prepare_1 (by assumption) (by assumption) ?_
  refine z_aload_n G dX3_prepare_4 rfl ?_
  refine z_getI G fl_X3_17 rfl dX3_prepare_5 (by assumption) ?_
  refine z_aald G 2 (nx) rfl (by decide) dX3_prepare_8 (by assumption) (hnx) (by omega) (z4 nx hnx25).1 ?_
  refine z_aload_n G dX3_prepare_9 rfl ?_
  refine z_V G lk_X3_25 dX3_prepare_10 [_] rfl rfl rfl (Nat.le_of_ble_eq_true rfl) ⟨Nat.le_refl _, Nat.le_refl _⟩ (z4 nx hnx25).2.1.1 ?_
  refine k_X1_become (z4 nx hnx25).2 hDG (by omega) hD hT hT5 hc hc3 hl hl2 (fun I' f1 f2 => ?_)
  exact z_vret G hq dX3_prepare_13 (h I' f1 f2)
set_option maxHeartbeats 1000000 in
set_option maxRecDepth 20000 in
theorem k_X3_commit {E : pmE} {d : Nat} {S : pmS} {I : pmI} {P : pmP} {R : Option Value → pmS → pmI → pmP → Prop} {nx a : Nat} (ho : OB S 50 3) (hnx : (I 50 1).toInt = (nx : Int)) (hnx25 : nx < 25) (ha : (I 50 2).toInt = (a : Int)) (ha24 : a ≤ 24) (h : R none S (va_up I 50 (va_up (va_up (I 50) 1 (iN ((nx + 1) % 25))) 2 (iN (noteA a)))) P) : pmX E (d + 1) 0 0 yX3_commit [rr E 50] S I P R := by
  refine pm_of (by decide) cd_X3_commit (by decide) (by decide) (Nat.le_of_ble_eq_true rfl) ?_
  intro C G hq
  refine z_aload_n G dX3_commit_0 rfl ?_
  refine z_aload_n G dX3_commit_1 rfl ?_
  refine z_getI G fl_X3_17 rfl dX3_commit_2 (by assumption) ?_
  refine z_iconst G (v := 1) dX3_commit_5 (by decide) ?_
  refine z_iadd G dX3_commit_6 ?_
  refine z_bipush G (v := 25) dX3_commit_7 (by decide) ?_
  refine z_irem G dX3_commit_9 (by decide) ?_
  refine z_top (y := iN ((nx + 1) % 25)) (by rw [iN_of hnx, iN_lit, iN_lit, iN_add, iN_rem (by omega) (by omega)]) ?_
  refine z_putI G fl_X3_17 ft_3_1 rfl rfl rfl dX3_commit_10 (by assumption) ?_
  try simp (disch := omega) only [va_at', va_ne', va_up_up]
  refine z_aload_n G dX3_commit_13 rfl ?_
  refine z_aload_n G dX3_commit_14 rfl ?_
  refine z_getI G fl_X3_21 rfl dX3_commit_15 (by assumption) ?_
  try simp (disch := omega) only [va_at', va_ne', va_up_up]
  refine z_iconst G (v := 1) dX3_commit_18 (by decide) ?_
  refine z_iadd G dX3_commit_19 ?_
  refine z_bipush G (v := 24) dX3_commit_20 (by decide) ?_
  refine z_mmin G ml_X3_29 mn_s mm_i mn_c dX3_commit_22 rfl (Nat.le_of_ble_eq_true rfl) ⟨Nat.le_refl _, Nat.le_refl _⟩ ?_
  refine z_top (y := iN (noteA a)) (by rw [iN_of ha, iN_lit, iN_lit, iN_add]; unfold noteA; by_cases h24 : a = 24 <;> simp (disch := omega) only [iN_lt, h24, if_true, if_false] <;> first | rfl | rw [if_neg (by omega)]) ?_
  refine z_putI G fl_X3_21 ft_3_2 rfl rfl rfl dX3_commit_25 (by assumption) ?_
  exact z_vret G hq dX3_commit_28 (by simpa only [va_up_self, va_up_up] using h)
set_option maxHeartbeats 1000000 in
set_option maxRecDepth 20000 in
theorem k_X9_actDone1 {E : pmE} {d : Nat} {S : pmS} {I : pmI} {P : pmP} {R : Option Value → pmS → pmI → pmP → Prop} {nx a : Nat} (hX : XG S P) (hnx : (I 50 1).toInt = (nx : Int)) (hnx25 : nx < 25) (ha : (I 50 2).toInt = (a : Int)) (ha24 : a ≤ 24) (h : R (some (.int 1)) S (va_up I 50 (va_up (va_up (I 50) 1 (iN ((nx + 1) % 25))) 2 (iN (noteA a)))) P) : pmX E (d + 2) 0 0 yX9_actDone [rr E 0, .int 1] S I P R := by
  refine pm_of (by decide) cd_X9_actDone (by decide) (by decide) (Nat.le_of_ble_eq_true rfl) ?_
  intro C G hq
  obtain ⟨⟨a0, a1, a2, a3, a4, a5, a6, a7, a8⟩, hRG, hRdG, hWG, hDG, ⟨z1, z2, z3, z4⟩, hIG, hFG, hAG⟩ := id hX
  refine z_iload_n G dX9_actDone_0 rfl ?_
  refine z_if_eq G 11 dX9_actDone_1 (by decide) (fun c => absurd c (by decide)) (fun _ => ?_)
  refine z_aload_n G dX9_actDone_4 rfl ?_
  refine z_getR G fl_X9_39 rfl dX9_actDone_5 (by assumption) (by assumption) ?_
  refine z_V G lk_X9_320 dX9_actDone_8 [] rfl rfl rfl (Nat.le_of_ble_eq_true rfl) ⟨Nat.le_refl _, Nat.le_refl _⟩ z1 ?_
  refine k_X3_commit z1 hnx hnx25 ha ha24 ?_
  refine z_iload_n G dX9_actDone_11 rfl ?_
  exact z_zret G hq dX9_actDone_12 rfl (h)
set_option maxHeartbeats 1000000 in
set_option maxRecDepth 20000 in
theorem k_X9_actDone0 {E : pmE} {d : Nat} {S : pmS} {I : pmI} {P : pmP} {R : Option Value → pmS → pmI → pmP → Prop} (h : R (some (.int 0)) S I P) : pmX E (d + 2) 0 0 yX9_actDone [rr E 0, .int 0] S I P R := by
  refine pm_of (by decide) cd_X9_actDone (by decide) (by decide) (Nat.le_of_ble_eq_true rfl) ?_
  intro C G hq
  refine z_iload_n G dX9_actDone_0 rfl ?_
  refine z_if_eq G 11 dX9_actDone_1 (by decide) (fun _ => ?_) (fun c => absurd c (by decide))
  refine z_iload_n G dX9_actDone_11 rfl ?_
  exact z_zret G hq dX9_actDone_12 rfl (h)
set_option maxHeartbeats 1000000 in
set_option maxRecDepth 20000 in
theorem k_X9_stands {E : pmE} {d : Nat} {S : pmS} {I : pmI} {P : pmP} {R : Option Value → pmS → pmI → pmP → Prop} (hX : XG S P) {n : Nat} (hn : (I 27 2).toInt = (n : Int)) (h1 : 0 < n → R (some (.int 1)) S I P) (h0 : ¬ 0 < n → R (some (.int 0)) S I P) : pmX E d 0 0 yX9_stands [rr E 0] S I P R := by
  refine pm_of (by decide) cd_X9_stands (by decide) (by decide) (Nat.le_of_ble_eq_true rfl) ?_
  intro C G hq
  obtain ⟨⟨a0, a1, a2, a3, a4, a5, a6, a7, a8⟩, hRG, hRdG, hWG, hDG, ⟨z1, z2, z3, z4⟩, hIG, hFG, hAG⟩ := id hX
  refine z_aload_n G dX9_stands_0 rfl ?_
  refine z_getR G fl_X9_25 rfl dX9_stands_1 (by assumption) (by assumption) ?_
  refine z_getI G fl_X9_312 rfl dX9_stands_4 hWG.1 ?_
  refine z_if_le G 14 dX9_stands_7 (by decide) (fun b7 => ?_) (fun b7 => ?_)
  · refine z_iconst G (v := 0) dX9_stands_14 (by decide) ?_
    exact z_zret G hq dX9_stands_15 rfl (h0 (by simp only [ti_lt, ti_le, Int32.reduceToInt, hn] at b7; omega))
  · refine z_iconst G (v := 1) dX9_stands_10 (by decide) ?_
    refine z_goto G 15 dX9_stands_11 (by decide) ?_
    exact z_zret G hq dX9_stands_15 rfl (h1 (by simp only [ti_lt, ti_le, Int32.reduceToInt, hn] at b7; omega))
set_option maxHeartbeats 1000000 in
set_option maxRecDepth 20000 in
theorem k_X9_isLinkNumber {E : pmE} {d : Nat} {S : pmS} {I : pmI} {P : pmP} {R : Option Value → pmS → pmI → pmP → Prop} {r : Int32} (h1 : ∀ k : Nat, r.toInt = (k : Int) → k < 3 → R (some (.int 1)) S I P) (h0 : (¬ ∃ k : Nat, r.toInt = (k : Int) ∧ k < 3) → R (some (.int 0)) S I P) : pmX E d 0 0 yX9_isLinkNumber [.int r] S I P R := by
  refine pm_of (by decide) cd_X9_isLinkNumber (by decide) (by decide) (Nat.le_of_ble_eq_true rfl) ?_
  intro C G hq
  refine z_iload_n G dX9_isLinkNumber_0 rfl ?_
  refine z_if_lt G 13 dX9_isLinkNumber_1 (by decide) (fun b1 => ?_) (fun b1 => ?_)
  · refine z_iconst G (v := 0) dX9_isLinkNumber_13 (by decide) ?_
    exact z_zret G hq dX9_isLinkNumber_14 rfl (h0 (fun ⟨k, q1, q2⟩ => by simp only [ti_lt, ti_le, Int32.reduceToInt] at *; omega))
  · refine z_iload_n G dX9_isLinkNumber_4 rfl ?_
    refine z_iconst G (v := 3) dX9_isLinkNumber_5 (by decide) ?_
    refine z_icmp_ge G 13 dX9_isLinkNumber_6 (by decide) (fun b6 => ?_) (fun b6 => ?_)
    · refine z_iconst G (v := 0) dX9_isLinkNumber_13 (by decide) ?_
      exact z_zret G hq dX9_isLinkNumber_14 rfl (h0 (fun ⟨k, q1, q2⟩ => by simp only [ti_lt, ti_le, Int32.reduceToInt] at *; omega))
    · refine z_iconst G (v := 1) dX9_isLinkNumber_9 (by decide) ?_
      refine z_goto G 14 dX9_isLinkNumber_10 (by decide) ?_
      exact z_zret G hq dX9_isLinkNumber_14 rfl (h1 r.toInt.toNat (by simp only [ti_lt, ti_le, Int32.reduceToInt] at *; omega) (by simp only [ti_lt, ti_le, Int32.reduceToInt] at *; omega))
set_option maxHeartbeats 1000000 in
set_option maxRecDepth 20000 in
theorem k_X9_isRow {E : pmE} {d : Nat} {S : pmS} {I : pmI} {P : pmP} {R : Option Value → pmS → pmI → pmP → Prop} {r : Int32} (h1 : ∀ k : Nat, r.toInt = (k : Int) → k < 8 → R (some (.int 1)) S I P) (h0 : (¬ ∃ k : Nat, r.toInt = (k : Int) ∧ k < 8) → R (some (.int 0)) S I P) : pmX E d 0 0 yX9_isRow [.int r] S I P R := by
  refine pm_of (by decide) cd_X9_isRow (by decide) (by decide) (Nat.le_of_ble_eq_true rfl) ?_
  intro C G hq
  refine z_iload_n G dX9_isRow_0 rfl ?_
  refine z_if_lt G 14 dX9_isRow_1 (by decide) (fun b1 => ?_) (fun b1 => ?_)
  · refine z_iconst G (v := 0) dX9_isRow_14 (by decide) ?_
    exact z_zret G hq dX9_isRow_15 rfl (h0 (fun ⟨k, q1, q2⟩ => by simp only [ti_lt, ti_le, Int32.reduceToInt] at *; omega))
  · refine z_iload_n G dX9_isRow_4 rfl ?_
    refine z_bipush G (v := 8) dX9_isRow_5 (by decide) ?_
    refine z_icmp_ge G 14 dX9_isRow_7 (by decide) (fun b7 => ?_) (fun b7 => ?_)
    · refine z_iconst G (v := 0) dX9_isRow_14 (by decide) ?_
      exact z_zret G hq dX9_isRow_15 rfl (h0 (fun ⟨k, q1, q2⟩ => by simp only [ti_lt, ti_le, Int32.reduceToInt] at *; omega))
    · refine z_iconst G (v := 1) dX9_isRow_10 (by decide) ?_
      refine z_goto G 15 dX9_isRow_11 (by decide) ?_
      exact z_zret G hq dX9_isRow_15 rfl (h1 r.toInt.toNat (by simp only [ti_lt, ti_le, Int32.reduceToInt] at *; omega) (by simp only [ti_lt, ti_le, Int32.reduceToInt] at *; omega))
set_option maxHeartbeats 1000000 in
set_option maxRecDepth 20000 in
theorem k_X9_found {E : pmE} {d : Nat} {S : pmS} {I : pmI} {P : pmP} {R : Option Value → pmS → pmI → pmP → Prop} (hX : XG S P) {f : Int32} (h : R (some (.int (-1000010 - f))) S (va_up I 0 (va_up (I 0) 8 f)) P) : pmX E d 0 0 yX9_found [rr E 0, .int f] S I P R := by
  refine pm_of (by decide) cd_X9_found (by decide) (by decide) (Nat.le_of_ble_eq_true rfl) ?_
  intro C G hq
  obtain ⟨⟨a0, a1, a2, a3, a4, a5, a6, a7, a8⟩, hRG, hRdG, hWG, hDG, ⟨z1, z2, z3, z4⟩, hIG, hFG, hAG⟩ := id hX
  refine z_aload_n G dX9_found_0 rfl ?_
  refine z_iload_n G dX9_found_1 rfl ?_
  refine z_putI G fl_X9_63 ft_9_8 rfl rfl rfl dX9_found_2 (by assumption) ?_
  refine z_ldcw G ct_X9_319 dX9_found_5 ?_
  refine z_iload_n G dX9_found_8 rfl ?_
  refine z_isub G dX9_found_9 ?_
  exact z_iret G hq dX9_found_10 (h)
set_option maxHeartbeats 1000000 in
set_option maxRecDepth 20000 in
theorem k_X9_follow {E : pmE} {d : Nat} {S : pmS} {I : pmI} {P : pmP} {R : Option Value → pmS → pmI → pmP → Prop} {n t : Nat} {w : Nat → Int32} {T c : Nat} (hX : XG S P) {nx a : Nat} (hnx : (I 50 1).toInt = (nx : Int)) (hnx25 : nx < 25) (ha : (I 50 2).toInt = (a : Int)) (ha24 : a ≤ 24) (hD : DR I P 30 w T c) (hV : Vd w n T t c) (hW : WR I 27 w n) {s0 p0 cn : Nat} {j : Int32} (hN0 : Nw w t s0 p0) (hcn : (w (4 + 5 * p0)).toInt = (cn : Int)) (hb : (¬ ∃ jn : Nat, j.toInt = (jn : Int) ∧ jn < 3) → R (some (.int (-1000001))) S I P) (hs : ¬ (0 ≤ j.toInt ∧ j.toInt < (cn : Int) ∧ (¬ w (44 + 10 * t) = 3 ∨ T < 5)) → (∃ jn : Nat, j.toInt = (jn : Int) ∧ jn < 3) → ∀ I', FrD I I' (52 + 20 * nx) → R (some (.int (-1000002))) S I' P) (hok : ∀ jn : Nat, j.toInt = (jn : Int) → jn < cn → (¬ w (44 + 10 * t) = 3 ∨ T < 5) → ∀ I' P', ActX S I I' P P' nx a w T c (followsF w T t s0 p0 jn) (TF w T t) c → R (some (.int (shwF (followsF w T t s0 p0 jn)))) S I' P') : pmX E (d + 4) 0 0 yX9_follow [rr E 0, .int j] S I P R := by
  refine pm_of (by decide) cd_X9_follow (by decide) (by decide) (Nat.le_of_ble_eq_true rfl) ?_
  intro C G hq
  obtain ⟨⟨a0, a1, a2, a3, a4, a5, a6, a7, a8⟩, hRG, hRdG, hWG, hDG, ⟨z1, z2, z3, z4⟩, hIG, hFG, hAG⟩ := id hX
  obtain ⟨v1, v2, v3, v4, v5, v6, v7, v8⟩ := id hV
  obtain ⟨s, p, hN, hpn⟩ := hV.nw
  obtain rfl : s = s0 := by have a1 := hN.2.2.1; have a2 := hN0.2.2.1; omega
  obtain rfl : p = p0 := by have a1 := hN.2.2.2.2.1; have a2 := hN0.2.2.2.2.1; omega
  refine z_aload_n G dX9_follow_0 rfl ?_
  refine z_V G lk_X9_142 dX9_follow_1 [] rfl rfl rfl (Nat.le_of_ble_eq_true rfl) ⟨Nat.le_refl _, Nat.le_refl _⟩ (by assumption) ?_
  refine k_X9_stands hX (by rw [hW.1]; exact v1.1) (fun _ => ?_) (fun q => absurd q (by omega))
  refine z_if_ne G 10 dX9_follow_4 (by decide) (fun _ => ?_) (fun c => absurd c (by decide))
  refine z_iload_n G dX9_follow_10 rfl ?_
  refine z_S G lk_X9_146 dX9_follow_11 [_] rfl rfl rfl (Nat.le_of_ble_eq_true rfl) ⟨Nat.le_refl _, Nat.le_refl _⟩ ?_
  refine k_X9_isLinkNumber ?_ ?_
  · intro jn hj hj3
    refine z_if_ne G 20 dX9_follow_14 (by decide) (fun _ => ?_) (fun c => absurd c (by decide))
    refine z_aload_n G dX9_follow_20 rfl ?_
    refine z_getR G fl_X9_39 rfl dX9_follow_21 (by assumption) (by assumption) ?_
    refine z_aload_n G dX9_follow_24 rfl ?_
    refine z_getR G fl_X9_32 rfl dX9_follow_25 (by assumption) (by assumption) ?_
    refine z_V G lk_X9_149 dX9_follow_28 [_] rfl rfl rfl (Nat.le_of_ble_eq_true rfl) ⟨Nat.le_refl _, Nat.le_refl _⟩ z1 ?_
    refine k_X3_prepare hX hnx hnx25 hD v2.1 v2.2.2 v4.1 v4.2 (fun i hi => (v6 i hi).l6) (fun i hi => (v7 i hi).l6) (fun I1 f1 f2 => ?_)
    have hD1 : DR I1 P 30 w T c := hD.congr hDG (by omega) v4.2 (fun _ _ _ => rfl) (fun k _ _ => f1 k (by omega))
    have hnx1 : (I1 50 1).toInt = (nx : Int) := by rw [f1 50 (by omega)]; exact hnx
    have ha1 : (I1 50 2).toInt = (a : Int) := by rw [f1 50 (by omega)]; exact ha
    have hW1 : WR I1 27 w n := hW.congr (fun k _ _ => f1 k (by omega))
    refine z_aload_n G dX9_follow_31 rfl ?_
    refine z_aload_n G dX9_follow_32 rfl ?_
    refine z_getR G fl_X9_32 rfl dX9_follow_33 (by assumption) (by assumption) ?_
    refine z_aload_n G dX9_follow_36 rfl ?_
    refine z_getR G fl_X9_25 rfl dX9_follow_37 (by assumption) (by assumption) ?_
    refine z_iload_n G dX9_follow_40 rfl ?_
    refine z_V G lk_X9_152 dX9_follow_41 [_, _] rfl rfl rfl (Nat.le_of_ble_eq_true rfl) ⟨Nat.le_refl _, Nat.le_refl _⟩ hDG.1.1 ?_
    refine k_X1_followLink hDG hD1 hV hWG hW1 hN hcn ?_ ?_
    · intro jn2 hj2 hjc hm I2 P2 m1 m2 m3 m4
      have hnx2 : (I2 50 1).toInt = (nx : Int) := by rw [m1 50 (by omega)]; exact hnx1
      have ha2 : (I2 50 2).toInt = (a : Int) := by rw [m1 50 (by omega)]; exact ha1
      have hX2 := hX.fr (Or.inl rfl) m2 m3
      have hV2 := hV.follows' hN.2.2.1 hpn hcn hjc hm
      obtain ⟨s3, p3, hN3, hp3⟩ := hV2.nw
      refine z_V G lk_X9_156 dX9_follow_44 [_] rfl rfl rfl (Nat.le_of_ble_eq_true rfl) ⟨Nat.le_refl _, Nat.le_refl _⟩ (by assumption) ?_
      refine k_X9_actDone1 hX2 hnx2 hnx25 ha2 ha24 ?_
      refine z_if_eq G 60 dX9_follow_47 (by decide) (fun c => absurd c (by decide)) (fun _ => ?_)
      refine z_aload_n G dX9_follow_50 rfl ?_
      refine z_getR G fl_X9_32 rfl dX9_follow_51 (by assumption) (hX2.1.2.2.2.2.1) ?_
      refine z_V G lk_X9_160 dX9_follow_54 [] rfl rfl rfl (Nat.le_of_ble_eq_true rfl) ⟨Nat.le_refl _, Nat.le_refl _⟩ m3.1.1 ?_
      refine k_X1_shownPage m3 (m4.congr m3 hV2.2.1.2.2 v4.2 (fun _ _ _ => rfl) (fun k _ _ => va_ne' (by omega))) hV2 hN3 ?_
      rw [← hN3.shw]
      refine z_goto G 62 dX9_follow_57 (by decide) ?_
      exact z_iret G hq dX9_follow_62 (hok jn2 hj2 hjc hm _ _ ⟨fun k k1 k2 => by rw [va_ne' (by omega), m1 k (by omega), f1 k (by omega)], by rw [va_at' rfl, va_ne' (by omega), va_at' rfl], by rw [va_at' rfl, va_at' rfl], (f2.congr (z4 nx hnx25).2 (by omega) v4.2 (fun k _ _ => m2 k (by omega) (by omega)) (fun k _ _ => by rw [va_ne' (by omega), m1 k (by omega)])), m4.congr m3 hV2.2.1.2.2 v4.2 (fun _ _ _ => rfl) (fun k _ _ => va_ne' (by omega)), m2, m3⟩)
    · intro hno
      refine z_V G lk_X9_156 dX9_follow_44 [_] rfl rfl rfl (Nat.le_of_ble_eq_true rfl) ⟨Nat.le_refl _, Nat.le_refl _⟩ (by assumption) ?_
      refine k_X9_actDone0 ?_
      refine z_if_eq G 60 dX9_follow_47 (by decide) (fun _ => ?_) (fun c => absurd c (by decide))
      refine z_ldc G ct_X9_145 dX9_follow_60 ?_
      exact z_iret G hq dX9_follow_62 (hs hno ⟨jn, hj, hj3⟩ I1 f1)
  · intro hno
    refine z_if_ne G 20 dX9_follow_14 (by decide) (fun c => absurd c (by decide)) (fun _ => ?_)
    refine z_ldc G ct_X9_73 dX9_follow_17 ?_
    exact z_iret G hq dX9_follow_19 (hb hno)
