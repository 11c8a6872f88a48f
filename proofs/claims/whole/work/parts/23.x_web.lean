set_option maxHeartbeats 1000000 in
set_option maxRecDepth 20000 in
theorem k_X8_hasPage {E : pmE} {d : Nat} {S : pmS} {I : pmI} {P : pmP} {R : Option Value → pmS → pmI → pmP → Prop} {g n : Nat} {page : Int32} (ho : OB S g 8) (hn : (I g 2).toInt = (n : Int)) (h1 : ∀ p : Nat, page.toInt = (p : Int) → p < n → R (some (.int 1)) S I P) (h0 : (¬ ∃ p : Nat, page.toInt = (p : Int) ∧ p < n) → R (some (.int 0)) S I P) (h8 : n ≤ 8 := by omega) : pmX E d 0 0 yX8_hasPage [rr E g, .int page] S I P R := by
  refine pm_of (by decide) cd_X8_hasPage (by decide) (by decide) (Nat.le_of_ble_eq_true rfl) ?_
  intro C G hq
  refine z_iload_n G dX8_hasPage_0 rfl ?_
  refine z_if_lt G 22 dX8_hasPage_1 (by decide) (fun b1 => ?_) (fun b1 => ?_)
  · refine z_iconst G (v := 0) dX8_hasPage_22 (by decide) ?_
    exact z_zret G hq dX8_hasPage_23 rfl (h0 (fun ⟨p, q1, q2⟩ => by simp only [ti_lt, ti_le, Int32.reduceToInt] at *; omega))
  · refine z_iload_n G dX8_hasPage_4 rfl ?_
    refine z_aload_n G dX8_hasPage_5 rfl ?_
    refine z_getI G fl_X8_18 rfl dX8_hasPage_6 (by assumption) ?_
    refine z_icmp_ge G 22 dX8_hasPage_9 (by decide) (fun b9 => ?_) (fun b9 => ?_)
    · refine z_iconst G (v := 0) dX8_hasPage_22 (by decide) ?_
      exact z_zret G hq dX8_hasPage_23 rfl (h0 (fun ⟨p, q1, q2⟩ => by simp only [ti_lt, ti_le, Int32.reduceToInt] at *; omega))
    · refine z_iload_n G dX8_hasPage_12 rfl ?_
      refine z_bipush G (v := 8) dX8_hasPage_13 (by decide) ?_
      refine z_icmp_ge G 22 dX8_hasPage_15 (by decide) (fun b15 => ?_) (fun b15 => ?_)
      · refine z_iconst G (v := 0) dX8_hasPage_22 (by decide) ?_
        exact z_zret G hq dX8_hasPage_23 rfl (h0 (fun ⟨p, q1, q2⟩ => by simp only [ti_lt, ti_le, Int32.reduceToInt] at *; omega))
      · refine z_iconst G (v := 1) dX8_hasPage_18 (by decide) ?_
        refine z_goto G 23 dX8_hasPage_19 (by decide) ?_
        exact z_zret G hq dX8_hasPage_23 rfl (h1 page.toInt.toNat (by simp only [ti_lt, ti_le, Int32.reduceToInt] at *; omega) (by simp only [ti_lt, ti_le, Int32.reduceToInt] at *; omega))
set_option maxHeartbeats 1000000 in
set_option maxRecDepth 20000 in
theorem k_X8_linksOf {E : pmE} {d : Nat} {S : pmS} {I : pmI} {P : pmP} {R : Option Value → pmS → pmI → pmP → Prop} {g n p : Nat} {w : Nat → Int32} {page : Int32} (hG : WebG S P g) (hr : WR I g w n) (hn : (w 0).toInt = (n : Int)) (h8 : n ≤ 8) (hp : page.toInt = (p : Int)) (hpn : p < n) (h : R (some (.int (w (4 + 5 * p)))) S I P) : pmX E (d + 1) 0 0 yX8_linksOf [rr E g, .int page] S I P R := by
  refine pm_of (by decide) cd_X8_linksOf (by decide) (by decide) (Nat.le_of_ble_eq_true rfl) ?_
  intro C G hq
  obtain ⟨g1, g2, g3, g4, g5⟩ := hG
  refine z_aload_n G dX8_linksOf_0 rfl ?_
  refine z_iload_n G dX8_linksOf_1 rfl ?_
  refine z_V G lk_X8_28 dX8_linksOf_2 [_] rfl rfl rfl (Nat.le_of_ble_eq_true rfl) ⟨Nat.le_refl _, Nat.le_refl _⟩ (by assumption) ?_
  refine k_X8_hasPage g1 (by rw [hr.1]; exact hn) (fun p2 q1 q2 => ?_) (fun q => absurd ⟨p, hp, hpn⟩ q)
  refine z_if_eq G 17 dX8_linksOf_5 (by decide) (fun c => absurd c (by decide)) (fun _ => ?_)
  refine z_aload_n G dX8_linksOf_8 rfl ?_
  refine z_getR G fl_X8_9 rfl dX8_linksOf_9 (by assumption) (by assumption) ?_
  refine z_iload_n G dX8_linksOf_12 rfl ?_
  refine z_iald G (p) dX8_linksOf_13 (by assumption) (hp) (by omega) ?_
  refine z_goto G 18 dX8_linksOf_14 (by decide) ?_
  exact z_iret G hq dX8_linksOf_18 (by rw [(hr.2 p hpn).1]; exact h)
set_option maxHeartbeats 1000000 in
set_option maxRecDepth 20000 in
theorem k_X8_target {E : pmE} {d : Nat} {S : pmS} {I : pmI} {P : pmP} {R : Option Value → pmS → pmI → pmP → Prop} {g n p cn : Nat} {w : Nat → Int32} {page j : Int32} (hG : WebG S P g) (hr : WR I g w n) (hn : (w 0).toInt = (n : Int)) (h8 : n ≤ 8) (hp : page.toInt = (p : Int)) (hpn : p < n) (hc : (w (4 + 5 * p)).toInt = (cn : Int)) (hc3 : cn ≤ 3) (h1 : ∀ jn : Nat, j.toInt = (jn : Int) → jn < cn → R (some (.int (w (5 + 5 * p + jn)))) S I P) (h0 : ¬ (0 ≤ j.toInt ∧ j.toInt < (cn : Int)) → R (some (.int (-1000000))) S I P) : pmX E (d + 2) 0 0 yX8_target [rr E g, .int page, .int j] S I P R := by
  refine pm_of (by decide) cd_X8_target (by decide) (by decide) (Nat.le_of_ble_eq_true rfl) ?_
  intro C G hq
  obtain ⟨g1, g2, g3, g4, g5⟩ := hG
  refine z_iload_n G dX8_target_0 rfl ?_
  refine z_if_lt G 26 dX8_target_1 (by decide) (fun b1 => ?_) (fun b1 => ?_)
  · refine z_ldc G ct_X8_36 dX8_target_26 ?_
    exact z_iret G hq dX8_target_28 (h0 (fun q => by simp only [ti_lt, ti_le, Int32.reduceToInt] at b1; omega))
  · refine z_iload_n G dX8_target_4 rfl ?_
    refine z_aload_n G dX8_target_5 rfl ?_
    refine z_iload_n G dX8_target_6 rfl ?_
    refine z_V G lk_X8_32 dX8_target_7 [_] rfl rfl rfl (Nat.le_of_ble_eq_true rfl) ⟨Nat.le_refl _, Nat.le_refl _⟩ (by assumption) ?_
    refine k_X8_linksOf ⟨g1, g2, g3, g4, g5⟩ hr hn h8 hp hpn ?_
    refine z_icmp_ge G 26 dX8_target_10 (by decide) (fun b10 => ?_) (fun b10 => ?_)
    · refine z_ldc G ct_X8_36 dX8_target_26 ?_
      exact z_iret G hq dX8_target_28 (h0 (fun q => by simp only [ti_lt, ti_le, Int32.reduceToInt] at b10; omega))
    · obtain ⟨jn, hj0, hjc⟩ : ∃ jn : Nat, j.toInt = (jn : Int) ∧ jn < cn := ⟨j.toInt.toNat, by simp only [ti_lt, ti_le, Int32.reduceToInt] at b1; omega, by simp only [ti_lt, ti_le, Int32.reduceToInt] at b1 b10; omega⟩
      refine z_aload_n G dX8_target_13 rfl ?_
      refine z_getR G fl_X8_15 rfl dX8_target_14 (by assumption) (by assumption) ?_
      refine z_iload_n G dX8_target_17 rfl ?_
      refine z_iconst G (v := 3) dX8_target_18 (by decide) ?_
      refine z_imul G dX8_target_19 ?_
      refine z_iload_n G dX8_target_20 rfl ?_
      refine z_iadd G dX8_target_21 ?_
      refine z_iald G (3 * p + jn) dX8_target_22 (by assumption) (by simp (disch := omega) only [iN_lit, iN_add, iN_sub, iN_mul, iN_an, iN_of hp, iN_of hj0]; exact iN_ti2 (by omega) (by omega)) (by omega) ?_
      refine z_goto G 28 dX8_target_23 (by decide) ?_
      exact z_iret G hq dX8_target_28 (by rw [(hr.2 p hpn).2 jn (by omega)]; exact h1 jn hj0 hjc)
set_option maxHeartbeats 1000000 in
set_option maxRecDepth 20000 in
theorem k_X1_hasTab {E : pmE} {d : Nat} {S : pmS} {I : pmI} {P : pmP} {R : Option Value → pmS → pmI → pmP → Prop} {dk T : Nat} {tab : Int32} (ho : OB S dk 1) (hT : (I dk 3).toInt = (T : Int)) (hT5 : T ≤ 5) (h1 : ∀ i : Nat, tab.toInt = (i : Int) → i < T → R (some (.int 1)) S I P) (h0 : (¬ ∃ i : Nat, tab.toInt = (i : Int) ∧ i < T) → R (some (.int 0)) S I P) : pmX E d 0 0 yX1_hasTab [rr E dk, .int tab] S I P R := by
  refine pm_of (by decide) cd_X1_hasTab (by decide) (by decide) (Nat.le_of_ble_eq_true rfl) ?_
  intro C G hq
  refine z_iload_n G dX1_hasTab_0 rfl ?_
  refine z_if_lt G 21 dX1_hasTab_1 (by decide) (fun b1 => ?_) (fun b1 => ?_)
  · refine z_iconst G (v := 0) dX1_hasTab_21 (by decide) ?_
    exact z_zret G hq dX1_hasTab_22 rfl (h0 (fun ⟨p, q1, q2⟩ => by simp only [ti_lt, ti_le, Int32.reduceToInt] at *; omega))
  · refine z_iload_n G dX1_hasTab_4 rfl ?_
    refine z_aload_n G dX1_hasTab_5 rfl ?_
    refine z_getI G fl_X1_24 rfl dX1_hasTab_6 (by assumption) ?_
    refine z_icmp_ge G 21 dX1_hasTab_9 (by decide) (fun b9 => ?_) (fun b9 => ?_)
    · refine z_iconst G (v := 0) dX1_hasTab_21 (by decide) ?_
      exact z_zret G hq dX1_hasTab_22 rfl (h0 (fun ⟨p, q1, q2⟩ => by simp only [ti_lt, ti_le, Int32.reduceToInt] at *; omega))
    · refine z_iload_n G dX1_hasTab_12 rfl ?_
      refine z_iconst G (v := 5) dX1_hasTab_13 (by decide) ?_
      refine z_icmp_ge G 21 dX1_hasTab_14 (by decide) (fun b14 => ?_) (fun b14 => ?_)
      · refine z_iconst G (v := 0) dX1_hasTab_21 (by decide) ?_
        exact z_zret G hq dX1_hasTab_22 rfl (h0 (fun ⟨p, q1, q2⟩ => by simp only [ti_lt, ti_le, Int32.reduceToInt] at *; omega))
      · refine z_iconst G (v := 1) dX1_hasTab_17 (by decide) ?_
        refine z_goto G 22 dX1_hasTab_18 (by decide) ?_
        exact z_zret G hq dX1_hasTab_22 rfl (h1 tab.toInt.toNat (by simp only [ti_lt, ti_le, Int32.reduceToInt] at *; omega) (by simp only [ti_lt, ti_le, Int32.reduceToInt] at *; omega))
set_option maxHeartbeats 1000000 in
set_option maxRecDepth 20000 in
theorem k_X1_hasRoom {E : pmE} {d : Nat} {S : pmS} {I : pmI} {P : pmP} {R : Option Value → pmS → pmI → pmP → Prop} {dk T : Nat} (ho : OB S dk 1) (hT : (I dk 3).toInt = (T : Int)) (h1 : T < 5 → R (some (.int 1)) S I P) (h0 : ¬ T < 5 → R (some (.int 0)) S I P) : pmX E d 0 0 yX1_hasRoom [rr E dk] S I P R := by
  refine pm_of (by decide) cd_X1_hasRoom (by decide) (by decide) (Nat.le_of_ble_eq_true rfl) ?_
  intro C G hq
  refine z_aload_n G dX1_hasRoom_0 rfl ?_
  refine z_getI G fl_X1_24 rfl dX1_hasRoom_1 (by assumption) ?_
  refine z_iconst G (v := 5) dX1_hasRoom_4 (by decide) ?_
  refine z_icmp_ge G 12 dX1_hasRoom_5 (by decide) (fun b5 => ?_) (fun b5 => ?_)
  · refine z_iconst G (v := 0) dX1_hasRoom_12 (by decide) ?_
    exact z_zret G hq dX1_hasRoom_13 rfl (h0 (by simp only [ti_lt, ti_le, Int32.reduceToInt] at *; omega))
  · refine z_iconst G (v := 1) dX1_hasRoom_8 (by decide) ?_
    refine z_goto G 13 dX1_hasRoom_9 (by decide) ?_
    exact z_zret G hq dX1_hasRoom_13 rfl (h1 (by simp only [ti_lt, ti_le, Int32.reduceToInt] at *; omega))
set_option maxHeartbeats 1000000 in
set_option maxRecDepth 20000 in
theorem k_X1_shownPage {E : pmE} {d : Nat} {S : pmS} {I : pmI} {P : pmP} {R : Option Value → pmS → pmI → pmP → Prop} {dk n T t c : Nat} {w : Nat → Int32} (hG : DG S P dk) (hD : DR I P dk w T c) (hV : Vd w n T t c) {s0 p0 : Nat} (hN0 : Nw w t s0 p0) (h : R (some (.int (w (48 + 10 * t + s0)))) S I P) : pmX E (d + 1) 0 0 yX1_shownPage [rr E dk] S I P R := by
  refine pm_of (by decide) cd_X1_shownPage (by decide) (by decide) (Nat.le_of_ble_eq_true rfl) ?_
  intro C G hq
  obtain ⟨⟨g1, g2, g3, g4, g5, g6, g7⟩, g8, g9, g10, g11, g12⟩ := id hG
  obtain ⟨v1, v2, v3, v4, v5, v6, v7, v8⟩ := id hV
  obtain ⟨d1, d2, d3, d4, d5, d6⟩ := id hD
  obtain ⟨tt, ht1, ht2, ht3, ht4⟩ := hG.row (show t < 5 by omega)
  have hTR := d4 t v3.2 tt ht1
  obtain ⟨s, p, hN, hpn⟩ := hV.nw
  have hnow : (I dk 4).toInt = (t : Int) := by rw [d2]; exact v3.1
  have hTI : (I dk 3).toInt = (T : Int) := by rw [d1]; exact v2.1
  have hsh : (I tt 4).toInt = (s : Int) := by rw [hTR.2.2.2.1, show 44 + 10 * t + 3 = 47 + 10 * t by omega]; exact hN.2.2.1
  have hs6 := hN.2.2.2.1
  obtain ⟨kd, hm, l, s2, u1, u2, u3, u4, u5, u6, u7, u8, u9, u10, u11⟩ := v6 t v3.2
  obtain rfl : s = s2 := by have := hN.2.2.1; rw [show 44 + 10 * t + 3 = 47 + 10 * t by omega] at u9; omega
  have hpg : I (tt + 1) s = w (48 + 10 * t + s) := by rw [hTR.2.2.2.2 s (by omega), show 44 + 10 * t + 4 + s = 48 + 10 * t + s by omega]
  refine z_aload_n G dX1_shownPage_0 rfl ?_
  refine z_aload_n G dX1_shownPage_1 rfl ?_
  refine z_getI G fl_X1_28 rfl dX1_shownPage_2 (by assumption) ?_
  refine z_V G lk_X1_45 dX1_shownPage_5 [_] rfl rfl rfl (Nat.le_of_ble_eq_true rfl) ⟨Nat.le_refl _, Nat.le_refl _⟩ (by assumption) ?_
  refine k_X1_hasTab g1 hTI (by omega) (fun p2 q1 q2 => ?_) (fun q => absurd ⟨t, hnow, v3.2⟩ q)
  refine z_if_eq G 26 dX1_shownPage_8 (by decide) (fun c => absurd c (by decide)) (fun _ => ?_)
  refine z_aload_n G dX1_shownPage_11 rfl ?_
  refine z_getR G fl_X1_11 rfl dX1_shownPage_12 (by assumption) (by assumption) ?_
  refine z_aload_n G dX1_shownPage_15 rfl ?_
  refine z_getI G fl_X1_28 rfl dX1_shownPage_16 (by assumption) ?_
  refine z_aald G 5 (t) rfl (by decide) dX1_shownPage_19 (by assumption) (hnow) (by omega) (by assumption) ?_
  refine z_V G lk_X1_49 dX1_shownPage_20 [] rfl rfl rfl (Nat.le_of_ble_eq_true rfl) ⟨Nat.le_refl _, Nat.le_refl _⟩ ht2.1 ?_
  refine k_X7_shownPage ht2 hsh hs6 ?_
  refine z_goto G 27 dX1_shownPage_23 (by decide) ?_
  exact z_iret G hq dX1_shownPage_27 (by rw [hpg]; rw [show s = s0 by have a1 := hN.2.2.1; have a2 := hN0.2.2.1; omega]; exact h)
