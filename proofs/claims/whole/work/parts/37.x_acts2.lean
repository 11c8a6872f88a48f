set_option maxHeartbeats 1000000 in
set_option maxRecDepth 20000 in
theorem k_X9_back {E : pmE} {d : Nat} {S : pmS} {I : pmI} {P : pmP} {R : Option Value → pmS → pmI → pmP → Prop} {n t : Nat} {w : Nat → Int32} {T c : Nat} (hX : XG S P) {nx a : Nat} (hnx : (I 50 1).toInt = (nx : Int)) (hnx25 : nx < 25) (ha : (I 50 2).toInt = (a : Int)) (ha24 : a ≤ 24) (hD : DR I P 30 w T c) (hV : Vd w n T t c) (hs : ¬ (¬ w (44 + 10 * t) = 5 ∧ 0 < w (47 + 10 * t)) → ∀ I', FrD I I' (52 + 20 * nx) → R (some (.int (-1000002))) S I' P) (hok : ¬ w (44 + 10 * t) = 5 ∧ 0 < w (47 + 10 * t) → ∀ I' P', ActX S I I' P P' nx a w T c (goesF w t 0) T c → R (some (.int (shwF (goesF w t 0)))) S I' P') : pmX E (d + 4) 0 0 yX9_back [rr E 0] S I P R := by
  refine pm_of (by decide) cd_X9_back (by decide) (by decide) (Nat.le_of_ble_eq_true rfl) ?_
  intro C G hq
  obtain ⟨⟨a0, a1, a2, a3, a4, a5, a6, a7, a8⟩, hRG, hRdG, hWG, hDG, ⟨z1, z2, z3, z4⟩, hIG, hFG, hAG⟩ := id hX
  obtain ⟨v1, v2, v3, v4, v5, v6, v7, v8⟩ := id hV
  obtain ⟨s, p, hN, hpn⟩ := hV.nw
  refine z_aload_n G dX9_back_0 rfl ?_
  refine z_getR G fl_X9_39 rfl dX9_back_1 (by assumption) (by assumption) ?_
  refine z_aload_n G dX9_back_4 rfl ?_
  refine z_getR G fl_X9_32 rfl dX9_back_5 (by assumption) (by assumption) ?_
  refine z_V G lk_X9_149 dX9_back_8 [_] rfl rfl rfl (Nat.le_of_ble_eq_true rfl) ⟨Nat.le_refl _, Nat.le_refl _⟩ z1 ?_
  refine k_X3_prepare hX hnx hnx25 hD v2.1 v2.2.2 v4.1 v4.2 (fun i hi => (v6 i hi).l6) (fun i hi => (v7 i hi).l6) (fun I1 f1 f2 => ?_)
  have hD1 : DR I1 P 30 w T c := hD.congr hDG (by omega) v4.2 (fun _ _ _ => rfl) (fun k _ _ => f1 k (by omega))
  have hnx1 : (I1 50 1).toInt = (nx : Int) := by rw [f1 50 (by omega)]; exact hnx
  have ha1 : (I1 50 2).toInt = (a : Int) := by rw [f1 50 (by omega)]; exact ha
  refine z_aload_n G dX9_back_11 rfl ?_
  refine z_aload_n G dX9_back_12 rfl ?_
  refine z_getR G fl_X9_32 rfl dX9_back_13 (by assumption) (by assumption) ?_
  refine z_V G lk_X9_164 dX9_back_16 [] rfl rfl rfl (Nat.le_of_ble_eq_true rfl) ⟨Nat.le_refl _, Nat.le_refl _⟩ hDG.1.1 ?_
  refine k_X1_stepBack hDG hD1 hV ?_ ?_
  · intro hm I2 m1 m4
    have hnx2 : (I2 50 1).toInt = (nx : Int) := by rw [m1 50 (by omega)]; exact hnx1
    have ha2 : (I2 50 2).toInt = (a : Int) := by rw [m1 50 (by omega)]; exact ha1
    have hV2 := hV.goB hm
    obtain ⟨s3, p3, hN3, hp3⟩ := hV2.nw
    refine z_V G lk_X9_156 dX9_back_19 [_] rfl rfl rfl (Nat.le_of_ble_eq_true rfl) ⟨Nat.le_refl _, Nat.le_refl _⟩ (by assumption) ?_
    refine k_X9_actDone1 hX hnx2 hnx25 ha2 ha24 ?_
    refine z_if_eq G 35 dX9_back_22 (by decide) (fun c => absurd c (by decide)) (fun _ => ?_)
    refine z_aload_n G dX9_back_25 rfl ?_
    refine z_getR G fl_X9_32 rfl dX9_back_26 (by assumption) (by assumption) ?_
    refine z_V G lk_X9_160 dX9_back_29 [] rfl rfl rfl (Nat.le_of_ble_eq_true rfl) ⟨Nat.le_refl _, Nat.le_refl _⟩ hDG.1.1 ?_
    refine k_X1_shownPage hDG (m4.congr hDG v2.2.2 v4.2 (fun _ _ _ => rfl) (fun k _ _ => va_ne' (by omega))) hV2 hN3 ?_
    rw [← hN3.shw]
    refine z_goto G 37 dX9_back_32 (by decide) ?_
    exact z_iret G hq dX9_back_37 (hok hm _ _ ⟨fun k k1 k2 => by rw [va_ne' (by omega), m1 k (by omega), f1 k (by omega)], by rw [va_at' rfl, va_ne' (by omega), va_at' rfl], by rw [va_at' rfl, va_at' rfl], (f2.congr (z4 nx hnx25).2 (by omega) v4.2 (fun k _ _ => rfl) (fun k _ _ => by rw [va_ne' (by omega), m1 k (by omega)])), m4.congr hDG v2.2.2 v4.2 (fun _ _ _ => rfl) (fun k _ _ => va_ne' (by omega)), (FrP.rf), hDG⟩)
  · intro hno
    refine z_V G lk_X9_156 dX9_back_19 [_] rfl rfl rfl (Nat.le_of_ble_eq_true rfl) ⟨Nat.le_refl _, Nat.le_refl _⟩ (by assumption) ?_
    refine k_X9_actDone0 ?_
    refine z_if_eq G 35 dX9_back_22 (by decide) (fun _ => ?_) (fun c => absurd c (by decide))
    refine z_ldc G ct_X9_145 dX9_back_35 ?_
    exact z_iret G hq dX9_back_37 (hs hno I1 f1)
set_option maxHeartbeats 1000000 in
set_option maxRecDepth 20000 in
theorem k_X9_forward {E : pmE} {d : Nat} {S : pmS} {I : pmI} {P : pmP} {R : Option Value → pmS → pmI → pmP → Prop} {n t : Nat} {w : Nat → Int32} {T c : Nat} (hX : XG S P) {nx a : Nat} (hnx : (I 50 1).toInt = (nx : Int)) (hnx25 : nx < 25) (ha : (I 50 2).toInt = (a : Int)) (ha24 : a ≤ 24) (hD : DR I P 30 w T c) (hV : Vd w n T t c) (hs : ¬ (¬ w (44 + 10 * t) = 5 ∧ w (47 + 10 * t) + 1 < w (46 + 10 * t)) → ∀ I', FrD I I' (52 + 20 * nx) → R (some (.int (-1000002))) S I' P) (hok : ¬ w (44 + 10 * t) = 5 ∧ w (47 + 10 * t) + 1 < w (46 + 10 * t) → ∀ I' P', ActX S I I' P P' nx a w T c (goesF w t 1) T c → R (some (.int (shwF (goesF w t 1)))) S I' P') : pmX E (d + 4) 0 0 yX9_forward [rr E 0] S I P R := by
  refine pm_of (by decide) cd_X9_forward (by decide) (by decide) (Nat.le_of_ble_eq_true rfl) ?_
  intro C G hq
  obtain ⟨⟨a0, a1, a2, a3, a4, a5, a6, a7, a8⟩, hRG, hRdG, hWG, hDG, ⟨z1, z2, z3, z4⟩, hIG, hFG, hAG⟩ := id hX
  obtain ⟨v1, v2, v3, v4, v5, v6, v7, v8⟩ := id hV
  obtain ⟨s, p, hN, hpn⟩ := hV.nw
  refine z_aload_n G dX9_forward_0 rfl ?_
  refine z_getR G fl_X9_39 rfl dX9_forward_1 (by assumption) (by assumption) ?_
  refine z_aload_n G dX9_forward_4 rfl ?_
  refine z_getR G fl_X9_32 rfl dX9_forward_5 (by assumption) (by assumption) ?_
  refine z_V G lk_X9_149 dX9_forward_8 [_] rfl rfl rfl (Nat.le_of_ble_eq_true rfl) ⟨Nat.le_refl _, Nat.le_refl _⟩ z1 ?_
  refine k_X3_prepare hX hnx hnx25 hD v2.1 v2.2.2 v4.1 v4.2 (fun i hi => (v6 i hi).l6) (fun i hi => (v7 i hi).l6) (fun I1 f1 f2 => ?_)
  have hD1 : DR I1 P 30 w T c := hD.congr hDG (by omega) v4.2 (fun _ _ _ => rfl) (fun k _ _ => f1 k (by omega))
  have hnx1 : (I1 50 1).toInt = (nx : Int) := by rw [f1 50 (by omega)]; exact hnx
  have ha1 : (I1 50 2).toInt = (a : Int) := by rw [f1 50 (by omega)]; exact ha
  refine z_aload_n G dX9_forward_11 rfl ?_
  refine z_aload_n G dX9_forward_12 rfl ?_
  refine z_getR G fl_X9_32 rfl dX9_forward_13 (by assumption) (by assumption) ?_
  refine z_V G lk_X9_167 dX9_forward_16 [] rfl rfl rfl (Nat.le_of_ble_eq_true rfl) ⟨Nat.le_refl _, Nat.le_refl _⟩ hDG.1.1 ?_
  refine k_X1_stepForward hDG hD1 hV ?_ ?_
  · intro hm I2 m1 m4
    have hnx2 : (I2 50 1).toInt = (nx : Int) := by rw [m1 50 (by omega)]; exact hnx1
    have ha2 : (I2 50 2).toInt = (a : Int) := by rw [m1 50 (by omega)]; exact ha1
    have hV2 := hV.goF hm
    obtain ⟨s3, p3, hN3, hp3⟩ := hV2.nw
    refine z_V G lk_X9_156 dX9_forward_19 [_] rfl rfl rfl (Nat.le_of_ble_eq_true rfl) ⟨Nat.le_refl _, Nat.le_refl _⟩ (by assumption) ?_
    refine k_X9_actDone1 hX hnx2 hnx25 ha2 ha24 ?_
    refine z_if_eq G 35 dX9_forward_22 (by decide) (fun c => absurd c (by decide)) (fun _ => ?_)
    refine z_aload_n G dX9_forward_25 rfl ?_
    refine z_getR G fl_X9_32 rfl dX9_forward_26 (by assumption) (by assumption) ?_
    refine z_V G lk_X9_160 dX9_forward_29 [] rfl rfl rfl (Nat.le_of_ble_eq_true rfl) ⟨Nat.le_refl _, Nat.le_refl _⟩ hDG.1.1 ?_
    refine k_X1_shownPage hDG (m4.congr hDG v2.2.2 v4.2 (fun _ _ _ => rfl) (fun k _ _ => va_ne' (by omega))) hV2 hN3 ?_
    rw [← hN3.shw]
    refine z_goto G 37 dX9_forward_32 (by decide) ?_
    exact z_iret G hq dX9_forward_37 (hok hm _ _ ⟨fun k k1 k2 => by rw [va_ne' (by omega), m1 k (by omega), f1 k (by omega)], by rw [va_at' rfl, va_ne' (by omega), va_at' rfl], by rw [va_at' rfl, va_at' rfl], (f2.congr (z4 nx hnx25).2 (by omega) v4.2 (fun k _ _ => rfl) (fun k _ _ => by rw [va_ne' (by omega), m1 k (by omega)])), m4.congr hDG v2.2.2 v4.2 (fun _ _ _ => rfl) (fun k _ _ => va_ne' (by omega)), (FrP.rf), hDG⟩)
  · intro hno
    refine z_V G lk_X9_156 dX9_forward_19 [_] rfl rfl rfl (Nat.le_of_ble_eq_true rfl) ⟨Nat.le_refl _, Nat.le_refl _⟩ (by assumption) ?_
    refine k_X9_actDone0 ?_
    refine z_if_eq G 35 dX9_forward_22 (by decide) (fun _ => ?_) (fun c => absurd c (by decide))
    refine z_ldc G ct_X9_145 dX9_forward_35 ?_
    exact z_iret G hq dX9_forward_37 (hs hno I1 f1)
set_option maxHeartbeats 1000000 in
set_option maxRecDepth 20000 in
theorem k_X9_select {E : pmE} {d : Nat} {S : pmS} {I : pmI} {P : pmP} {R : Option Value → pmS → pmI → pmP → Prop} {n t : Nat} {w : Nat → Int32} {T c : Nat} (hX : XG S P) {nx a : Nat} (hnx : (I 50 1).toInt = (nx : Int)) (hnx25 : nx < 25) (ha : (I 50 2).toInt = (a : Int)) (ha24 : a ≤ 24) (hD : DR I P 30 w T c) (hV : Vd w n T t c) {tab : Int32} (hb : (¬ ∃ i : Nat, tab.toInt = (i : Int) ∧ i < T) → R (some (.int (-1000001))) S I P) (hs : ∀ i : Nat, tab.toInt = (i : Int) → i < T → tab = w 2 → ∀ I', FrD I I' (52 + 20 * nx) → R (some (.int (-1000002))) S I' P) (hok : ∀ i : Nat, tab.toInt = (i : Int) → i < T → ¬ tab = w 2 → ∀ I' P', ActX S I I' P P' nx a w T c (va_up w 2 tab) T c → R (some (.int (w 2))) S I' P') : pmX E (d + 4) 0 0 yX9_select [rr E 0, .int tab] S I P R := by
  refine pm_of (by decide) cd_X9_select (by decide) (by decide) (Nat.le_of_ble_eq_true rfl) ?_
  intro C G hq
  obtain ⟨⟨a0, a1, a2, a3, a4, a5, a6, a7, a8⟩, hRG, hRdG, hWG, hDG, ⟨z1, z2, z3, z4⟩, hIG, hFG, hAG⟩ := id hX
  obtain ⟨v1, v2, v3, v4, v5, v6, v7, v8⟩ := id hV
  obtain ⟨s, p, hN, hpn⟩ := hV.nw
  refine z_aload_n G dX9_select_0 rfl ?_
  refine z_getR G fl_X9_32 rfl dX9_select_1 (by assumption) (by assumption) ?_
  refine z_iload_n G dX9_select_4 rfl ?_
  refine z_V G lk_X9_170 dX9_select_5 [_] rfl rfl rfl (Nat.le_of_ble_eq_true rfl) ⟨Nat.le_refl _, Nat.le_refl _⟩ hDG.1.1 ?_
  refine k_X1_hasTab hDG.1.1 (by rw [hD.1]; exact v2.1) v2.2.2 ?_ ?_
  · intro i hi hiT
    refine z_if_ne G 14 dX9_select_8 (by decide) (fun _ => ?_) (fun c => absurd c (by decide))
    refine z_aload_n G dX9_select_14 rfl ?_
    refine z_getR G fl_X9_32 rfl dX9_select_15 (by assumption) (by assumption) ?_
    refine z_getI G fl_X9_173 rfl dX9_select_18 hDG.1.1 ?_
    rw [hD.2.1]
    refine z_istore_n G dX9_select_21 (Nat.le_of_ble_eq_true rfl) rfl ?_
    refine z_aload_n G dX9_select_22 rfl ?_
    refine z_getR G fl_X9_39 rfl dX9_select_23 (by assumption) (by assumption) ?_
    refine z_aload_n G dX9_select_26 rfl ?_
    refine z_getR G fl_X9_32 rfl dX9_select_27 (by assumption) (by assumption) ?_
    refine z_V G lk_X9_149 dX9_select_30 [_] rfl rfl rfl (Nat.le_of_ble_eq_true rfl) ⟨Nat.le_refl _, Nat.le_refl _⟩ z1 ?_
    refine k_X3_prepare hX hnx hnx25 hD v2.1 v2.2.2 v4.1 v4.2 (fun i hi => (v6 i hi).l6) (fun i hi => (v7 i hi).l6) (fun I1 f1 f2 => ?_)
    have hD1 : DR I1 P 30 w T c := hD.congr hDG (by omega) v4.2 (fun _ _ _ => rfl) (fun k _ _ => f1 k (by omega))
    have hnx1 : (I1 50 1).toInt = (nx : Int) := by rw [f1 50 (by omega)]; exact hnx
    have ha1 : (I1 50 2).toInt = (a : Int) := by rw [f1 50 (by omega)]; exact ha
    refine z_aload_n G dX9_select_33 rfl ?_
    refine z_aload_n G dX9_select_34 rfl ?_
    refine z_getR G fl_X9_32 rfl dX9_select_35 (by assumption) (by assumption) ?_
    refine z_iload_n G dX9_select_38 rfl ?_
    refine z_V G lk_X9_176 dX9_select_39 [_] rfl rfl rfl (Nat.le_of_ble_eq_true rfl) ⟨Nat.le_refl _, Nat.le_refl _⟩ hDG.1.1 ?_
    refine k_X1_selectTab hDG hD1 hV hi hiT ?_ ?_
    · intro hm I2 m1 m4
      have hnx2 : (I2 50 1).toInt = (nx : Int) := by rw [m1 50 (by omega)]; exact hnx1
      have ha2 : (I2 50 2).toInt = (a : Int) := by rw [m1 50 (by omega)]; exact ha1
      refine z_V G lk_X9_156 dX9_select_42 [_] rfl rfl rfl (Nat.le_of_ble_eq_true rfl) ⟨Nat.le_refl _, Nat.le_refl _⟩ (by assumption) ?_
      refine k_X9_actDone1 hX hnx2 hnx25 ha2 ha24 ?_
      refine z_if_eq G 52 dX9_select_45 (by decide) (fun c => absurd c (by decide)) (fun _ => ?_)
      refine z_iload_n G dX9_select_48 rfl ?_
      refine z_goto G 54 dX9_select_49 (by decide) ?_
      exact z_iret G hq dX9_select_54 (hok i hi hiT hm _ _ ⟨fun k k1 k2 => by rw [va_ne' (by omega), m1 k (by omega), f1 k (by omega)], by rw [va_at' rfl, va_ne' (by omega), va_at' rfl], by rw [va_at' rfl, va_at' rfl], (f2.congr (z4 nx hnx25).2 (by omega) v4.2 (fun k _ _ => rfl) (fun k _ _ => by rw [va_ne' (by omega), m1 k (by omega)])), m4.congr hDG v2.2.2 v4.2 (fun _ _ _ => rfl) (fun k _ _ => va_ne' (by omega)), (FrP.rf), hDG⟩)
    · intro hno
      refine z_V G lk_X9_156 dX9_select_42 [_] rfl rfl rfl (Nat.le_of_ble_eq_true rfl) ⟨Nat.le_refl _, Nat.le_refl _⟩ (by assumption) ?_
      refine k_X9_actDone0 ?_
      refine z_if_eq G 52 dX9_select_45 (by decide) (fun _ => ?_) (fun c => absurd c (by decide))
      refine z_ldc G ct_X9_145 dX9_select_52 ?_
      exact z_iret G hq dX9_select_54 (hs i hi hiT hno I1 f1)
  · intro hno
    refine z_if_ne G 14 dX9_select_8 (by decide) (fun c => absurd c (by decide)) (fun _ => ?_)
    refine z_ldc G ct_X9_73 dX9_select_11 ?_
    exact z_iret G hq dX9_select_13 (hb hno)
set_option maxHeartbeats 1000000 in
set_option maxRecDepth 20000 in
theorem k_X9_open {E : pmE} {d : Nat} {S : pmS} {I : pmI} {P : pmP} {R : Option Value → pmS → pmI → pmP → Prop} {n t : Nat} {w : Nat → Int32} {T c : Nat} (hX : XG S P) {nx a : Nat} (hnx : (I 50 1).toInt = (nx : Int)) (hnx25 : nx < 25) (ha : (I 50 2).toInt = (a : Int)) (ha24 : a ≤ 24) (hD : DR I P 30 w T c) (hV : Vd w n T t c) (hW : WR I 27 w n) {page : Int32} (hb : (¬ ∃ q : Nat, page.toInt = (q : Int) ∧ q < n) → R (some (.int (-1000001))) S I P) (hs : ∀ q : Nat, page.toInt = (q : Int) → q < n → ¬ T < 5 → ∀ I', FrD I I' (52 + 20 * nx) → R (some (.int (-1000002))) S I' P) (hok : ∀ q : Nat, page.toInt = (q : Int) → q < n → T < 5 → ∀ I' P', ActX S I I' P P' nx a w T c (opensF w T page) (T + 1) c → R (some (.int (iN (T + 1)))) S I' P') : pmX E (d + 4) 0 0 yX9_open [rr E 0, .int page] S I P R := by
  refine pm_of (by decide) cd_X9_open (by decide) (by decide) (Nat.le_of_ble_eq_true rfl) ?_
  intro C G hq
  obtain ⟨⟨a0, a1, a2, a3, a4, a5, a6, a7, a8⟩, hRG, hRdG, hWG, hDG, ⟨z1, z2, z3, z4⟩, hIG, hFG, hAG⟩ := id hX
  obtain ⟨v1, v2, v3, v4, v5, v6, v7, v8⟩ := id hV
  obtain ⟨s, p, hN, hpn⟩ := hV.nw
  refine z_aload_n G dX9_open_0 rfl ?_
  refine z_getR G fl_X9_25 rfl dX9_open_1 (by assumption) (by assumption) ?_
  refine z_iload_n G dX9_open_4 rfl ?_
  refine z_V G lk_X9_179 dX9_open_5 [_] rfl rfl rfl (Nat.le_of_ble_eq_true rfl) ⟨Nat.le_refl _, Nat.le_refl _⟩ hWG.1 ?_
  refine k_X8_hasPage hWG.1 (by rw [hW.1]; exact v1.1) ?_ ?_
  · intro q hq5 hqn
    refine z_if_ne G 14 dX9_open_8 (by decide) (fun _ => ?_) (fun c => absurd c (by decide))
    refine z_aload_n G dX9_open_14 rfl ?_
    refine z_getR G fl_X9_39 rfl dX9_open_15 (by assumption) (by assumption) ?_
    refine z_aload_n G dX9_open_18 rfl ?_
    refine z_getR G fl_X9_32 rfl dX9_open_19 (by assumption) (by assumption) ?_
    refine z_V G lk_X9_149 dX9_open_22 [_] rfl rfl rfl (Nat.le_of_ble_eq_true rfl) ⟨Nat.le_refl _, Nat.le_refl _⟩ z1 ?_
    refine k_X3_prepare hX hnx hnx25 hD v2.1 v2.2.2 v4.1 v4.2 (fun i hi => (v6 i hi).l6) (fun i hi => (v7 i hi).l6) (fun I1 f1 f2 => ?_)
    have hD1 : DR I1 P 30 w T c := hD.congr hDG (by omega) v4.2 (fun _ _ _ => rfl) (fun k _ _ => f1 k (by omega))
    have hnx1 : (I1 50 1).toInt = (nx : Int) := by rw [f1 50 (by omega)]; exact hnx
    have ha1 : (I1 50 2).toInt = (a : Int) := by rw [f1 50 (by omega)]; exact ha
    refine z_aload_n G dX9_open_25 rfl ?_
    refine z_aload_n G dX9_open_26 rfl ?_
    refine z_getR G fl_X9_32 rfl dX9_open_27 (by assumption) (by assumption) ?_
    refine z_iload_n G dX9_open_30 rfl ?_
    refine z_V G lk_X9_182 dX9_open_31 [_] rfl rfl rfl (Nat.le_of_ble_eq_true rfl) ⟨Nat.le_refl _, Nat.le_refl _⟩ hDG.1.1 ?_
    refine k_X1_openPage hDG hD1 hV hq5 hqn ?_ ?_
    · intro hm I2 P2 m1 m2 m3 m4
      have hnx2 : (I2 50 1).toInt = (nx : Int) := by rw [m1 50 (by omega)]; exact hnx1
      have ha2 : (I2 50 2).toInt = (a : Int) := by rw [m1 50 (by omega)]; exact ha1
      have hX2 := hX.fr (Or.inl rfl) m2 m3
      have hV2 := hV.opens hm hq5 hqn
      refine z_V G lk_X9_156 dX9_open_34 [_] rfl rfl rfl (Nat.le_of_ble_eq_true rfl) ⟨Nat.le_refl _, Nat.le_refl _⟩ (by assumption) ?_
      refine k_X9_actDone1 hX2 hnx2 hnx25 ha2 ha24 ?_
      refine z_if_eq G 50 dX9_open_37 (by decide) (fun c => absurd c (by decide)) (fun _ => ?_)
      refine z_aload_n G dX9_open_40 rfl ?_
      refine z_getR G fl_X9_32 rfl dX9_open_41 (by assumption) (hX2.1.2.2.2.2.1) ?_
      refine z_getI G fl_X9_136 rfl dX9_open_44 m3.1.1 ?_
      rw [va_ne' (by omega), m4.1, iN_of hV2.2.1.1]
      refine z_goto G 52 dX9_open_47 (by decide) ?_
      exact z_iret G hq dX9_open_52 (hok q hq5 hqn hm _ _ ⟨fun k k1 k2 => by rw [va_ne' (by omega), m1 k (by omega), f1 k (by omega)], by rw [va_at' rfl, va_ne' (by omega), va_at' rfl], by rw [va_at' rfl, va_at' rfl], (f2.congr (z4 nx hnx25).2 (by omega) v4.2 (fun k _ _ => m2 k (by omega) (by omega)) (fun k _ _ => by rw [va_ne' (by omega), m1 k (by omega)])), m4.congr m3 hV2.2.1.2.2 v4.2 (fun _ _ _ => rfl) (fun k _ _ => va_ne' (by omega)), m2, m3⟩)
    · intro hno
      refine z_V G lk_X9_156 dX9_open_34 [_] rfl rfl rfl (Nat.le_of_ble_eq_true rfl) ⟨Nat.le_refl _, Nat.le_refl _⟩ (by assumption) ?_
      refine k_X9_actDone0 ?_
      refine z_if_eq G 50 dX9_open_37 (by decide) (fun _ => ?_) (fun c => absurd c (by decide))
      refine z_ldc G ct_X9_145 dX9_open_50 ?_
      exact z_iret G hq dX9_open_52 (hs q hq5 hqn hno I1 f1)
  · intro hno
    refine z_if_ne G 14 dX9_open_8 (by decide) (fun c => absurd c (by decide)) (fun _ => ?_)
    refine z_ldc G ct_X9_73 dX9_open_11 ?_
    exact z_iret G hq dX9_open_13 (hb hno)
set_option maxHeartbeats 1000000 in
set_option maxRecDepth 20000 in
theorem k_X9_close {E : pmE} {d : Nat} {S : pmS} {I : pmI} {P : pmP} {R : Option Value → pmS → pmI → pmP → Prop} {n t : Nat} {w : Nat → Int32} {T c : Nat} (hX : XG S P) {nx a : Nat} (hnx : (I 50 1).toInt = (nx : Int)) (hnx25 : nx < 25) (ha : (I 50 2).toInt = (a : Int)) (ha24 : a ≤ 24) (hD : DR I P 30 w T c) (hV : Vd w n T t c) (hs : ¬ 2 ≤ T → ∀ I', FrD I I' (52 + 20 * nx) → R (some (.int (-1000002))) S I' P) (hok : 2 ≤ T → ∀ I' P', ActX S I I' P P' nx a w T c (closesF w T t c) (T - 1) (keepC w t c) → R (some (.int (closesF w T t c 2))) S I' P') : pmX E (d + 4) 0 0 yX9_close [rr E 0] S I P R := by
  refine pm_of (by decide) cd_X9_close (by decide) (by decide) (Nat.le_of_ble_eq_true rfl) ?_
  intro C G hq
  obtain ⟨⟨a0, a1, a2, a3, a4, a5, a6, a7, a8⟩, hRG, hRdG, hWG, hDG, ⟨z1, z2, z3, z4⟩, hIG, hFG, hAG⟩ := id hX
  obtain ⟨v1, v2, v3, v4, v5, v6, v7, v8⟩ := id hV
  obtain ⟨s, p, hN, hpn⟩ := hV.nw
  refine z_aload_n G dX9_close_0 rfl ?_
  refine z_getR G fl_X9_39 rfl dX9_close_1 (by assumption) (by assumption) ?_
  refine z_aload_n G dX9_close_4 rfl ?_
  refine z_getR G fl_X9_32 rfl dX9_close_5 (by assumption) (by assumption) ?_
  refine z_V G lk_X9_149 dX9_close_8 [_] rfl rfl rfl (Nat.le_of_ble_eq_true rfl) ⟨Nat.le_refl _, Nat.le_refl _⟩ z1 ?_
  refine k_X3_prepare hX hnx hnx25 hD v2.1 v2.2.2 v4.1 v4.2 (fun i hi => (v6 i hi).l6) (fun i hi => (v7 i hi).l6) (fun I1 f1 f2 => ?_)
  have hD1 : DR I1 P 30 w T c := hD.congr hDG (by omega) v4.2 (fun _ _ _ => rfl) (fun k _ _ => f1 k (by omega))
  have hnx1 : (I1 50 1).toInt = (nx : Int) := by rw [f1 50 (by omega)]; exact hnx
  have ha1 : (I1 50 2).toInt = (a : Int) := by rw [f1 50 (by omega)]; exact ha
  refine z_aload_n G dX9_close_11 rfl ?_
  refine z_aload_n G dX9_close_12 rfl ?_
  refine z_getR G fl_X9_32 rfl dX9_close_13 (by assumption) (by assumption) ?_
  refine z_V G lk_X9_185 dX9_close_16 [] rfl rfl rfl (Nat.le_of_ble_eq_true rfl) ⟨Nat.le_refl _, Nat.le_refl _⟩ hDG.1.1 ?_
  refine k_X1_closeNow hDG hD1 hV ?_ ?_
  · intro hm I2 P2 m1 m2 m3 m4
    have hnx2 : (I2 50 1).toInt = (nx : Int) := by rw [m1 50 (by omega)]; exact hnx1
    have ha2 : (I2 50 2).toInt = (a : Int) := by rw [m1 50 (by omega)]; exact ha1
    have hX2 := hX.fr (Or.inl rfl) m2 m3
    have hV2 := hV.closes hm
    refine z_V G lk_X9_156 dX9_close_19 [_] rfl rfl rfl (Nat.le_of_ble_eq_true rfl) ⟨Nat.le_refl _, Nat.le_refl _⟩ (by assumption) ?_
    refine k_X9_actDone1 hX2 hnx2 hnx25 ha2 ha24 ?_
    refine z_if_eq G 35 dX9_close_22 (by decide) (fun c => absurd c (by decide)) (fun _ => ?_)
    refine z_aload_n G dX9_close_25 rfl ?_
    refine z_getR G fl_X9_32 rfl dX9_close_26 (by assumption) (hX2.1.2.2.2.2.1) ?_
    refine z_getI G fl_X9_173 rfl dX9_close_29 m3.1.1 ?_
    rw [va_ne' (by omega), m4.2.1]
    refine z_goto G 37 dX9_close_32 (by decide) ?_
    exact z_iret G hq dX9_close_37 (hok hm _ _ ⟨fun k k1 k2 => by rw [va_ne' (by omega), m1 k (by omega), f1 k (by omega)], by rw [va_at' rfl, va_ne' (by omega), va_at' rfl], by rw [va_at' rfl, va_at' rfl], (f2.congr (z4 nx hnx25).2 (by omega) v4.2 (fun k _ _ => m2 k (by omega) (by omega)) (fun k _ _ => by rw [va_ne' (by omega), m1 k (by omega)])), m4.congr m3 hV2.2.1.2.2 hV2.2.2.2.1.2 (fun _ _ _ => rfl) (fun k _ _ => va_ne' (by omega)), m2, m3⟩)
  · intro hno
    refine z_V G lk_X9_156 dX9_close_19 [_] rfl rfl rfl (Nat.le_of_ble_eq_true rfl) ⟨Nat.le_refl _, Nat.le_refl _⟩ (by assumption) ?_
    refine k_X9_actDone0 ?_
    refine z_if_eq G 35 dX9_close_22 (by decide) (fun _ => ?_) (fun c => absurd c (by decide))
    refine z_ldc G ct_X9_145 dX9_close_35 ?_
    exact z_iret G hq dX9_close_37 (hs hno I1 f1)
set_option maxHeartbeats 1000000 in
set_option maxRecDepth 20000 in
theorem k_X9_again {E : pmE} {d : Nat} {S : pmS} {I : pmI} {P : pmP} {R : Option Value → pmS → pmI → pmP → Prop} {n t : Nat} {w : Nat → Int32} {T c : Nat} (hX : XG S P) {nx a : Nat} (hnx : (I 50 1).toInt = (nx : Int)) (hnx25 : nx < 25) (ha : (I 50 2).toInt = (a : Int)) (ha24 : a ≤ 24) (hD : DR I P 30 w T c) (hV : Vd w n T t c) (hs : ¬ (1 ≤ c ∧ T < 5) → ∀ I', FrD I I' (52 + 20 * nx) → R (some (.int (-1000002))) S I' P) (hok : 1 ≤ c → T < 5 → ∀ I' P', ActX S I I' P P' nx a w T c (againF w T c) (T + 1) (c - 1) → R (some (.int (iN (T + 1)))) S I' P') : pmX E (d + 4) 0 0 yX9_again [rr E 0] S I P R := by
  refine pm_of (by decide) cd_X9_again (by decide) (by decide) (Nat.le_of_ble_eq_true rfl) ?_
  intro C G hq
  obtain ⟨⟨a0, a1, a2, a3, a4, a5, a6, a7, a8⟩, hRG, hRdG, hWG, hDG, ⟨z1, z2, z3, z4⟩, hIG, hFG, hAG⟩ := id hX
  obtain ⟨v1, v2, v3, v4, v5, v6, v7, v8⟩ := id hV
  obtain ⟨s, p, hN, hpn⟩ := hV.nw
  refine z_aload_n G dX9_again_0 rfl ?_
  refine z_getR G fl_X9_39 rfl dX9_again_1 (by assumption) (by assumption) ?_
  refine z_aload_n G dX9_again_4 rfl ?_
  refine z_getR G fl_X9_32 rfl dX9_again_5 (by assumption) (by assumption) ?_
  refine z_V G lk_X9_149 dX9_again_8 [_] rfl rfl rfl (Nat.le_of_ble_eq_true rfl) ⟨Nat.le_refl _, Nat.le_refl _⟩ z1 ?_
  refine k_X3_prepare hX hnx hnx25 hD v2.1 v2.2.2 v4.1 v4.2 (fun i hi => (v6 i hi).l6) (fun i hi => (v7 i hi).l6) (fun I1 f1 f2 => ?_)
  have hD1 : DR I1 P 30 w T c := hD.congr hDG (by omega) v4.2 (fun _ _ _ => rfl) (fun k _ _ => f1 k (by omega))
  have hnx1 : (I1 50 1).toInt = (nx : Int) := by rw [f1 50 (by omega)]; exact hnx
  have ha1 : (I1 50 2).toInt = (a : Int) := by rw [f1 50 (by omega)]; exact ha
  refine z_aload_n G dX9_again_11 rfl ?_
  refine z_aload_n G dX9_again_12 rfl ?_
  refine z_getR G fl_X9_32 rfl dX9_again_13 (by assumption) (by assumption) ?_
  refine z_V G lk_X9_188 dX9_again_16 [] rfl rfl rfl (Nat.le_of_ble_eq_true rfl) ⟨Nat.le_refl _, Nat.le_refl _⟩ hDG.1.1 ?_
  refine k_X1_reopen hDG hD1 hV ?_ ?_
  · intro hm1 hm2 I2 P2 m1 m2 m3 m4
    have hnx2 : (I2 50 1).toInt = (nx : Int) := by rw [m1 50 (by omega)]; exact hnx1
    have ha2 : (I2 50 2).toInt = (a : Int) := by rw [m1 50 (by omega)]; exact ha1
    have hX2 := hX.fr (Or.inl rfl) m2 m3
    have hV2 := hV.again hm2 hm1
    refine z_V G lk_X9_156 dX9_again_19 [_] rfl rfl rfl (Nat.le_of_ble_eq_true rfl) ⟨Nat.le_refl _, Nat.le_refl _⟩ (by assumption) ?_
    refine k_X9_actDone1 hX2 hnx2 hnx25 ha2 ha24 ?_
    refine z_if_eq G 35 dX9_again_22 (by decide) (fun c => absurd c (by decide)) (fun _ => ?_)
    refine z_aload_n G dX9_again_25 rfl ?_
    refine z_getR G fl_X9_32 rfl dX9_again_26 (by assumption) (hX2.1.2.2.2.2.1) ?_
    refine z_getI G fl_X9_136 rfl dX9_again_29 m3.1.1 ?_
    rw [va_ne' (by omega), m4.1, iN_of hV2.2.1.1]
    refine z_goto G 37 dX9_again_32 (by decide) ?_
    exact z_iret G hq dX9_again_37 (hok hm1 hm2 _ _ ⟨fun k k1 k2 => by rw [va_ne' (by omega), m1 k (by omega), f1 k (by omega)], by rw [va_at' rfl, va_ne' (by omega), va_at' rfl], by rw [va_at' rfl, va_at' rfl], (f2.congr (z4 nx hnx25).2 (by omega) v4.2 (fun k _ _ => m2 k (by omega) (by omega)) (fun k _ _ => by rw [va_ne' (by omega), m1 k (by omega)])), m4.congr m3 hV2.2.1.2.2 hV2.2.2.2.1.2 (fun _ _ _ => rfl) (fun k _ _ => va_ne' (by omega)), m2, m3⟩)
  · intro hno
    refine z_V G lk_X9_156 dX9_again_19 [_] rfl rfl rfl (Nat.le_of_ble_eq_true rfl) ⟨Nat.le_refl _, Nat.le_refl _⟩ (by assumption) ?_
    refine k_X9_actDone0 ?_
    refine z_if_eq G 35 dX9_again_22 (by decide) (fun _ => ?_) (fun c => absurd c (by decide))
    refine z_ldc G ct_X9_145 dX9_again_35 ?_
    exact z_iret G hq dX9_again_37 (hs hno I1 f1)
set_option maxHeartbeats 1000000 in
set_option maxRecDepth 20000 in
theorem k_X3_takeBack {E : pmE} {d : Nat} {S : pmS} {I : pmI} {P : pmP} {R : Option Value → pmS → pmI → pmP → Prop} (hX : XG S P) {nx a : Nat} (hnx : (I 50 1).toInt = (nx : Int)) (hnx25 : nx < 25) (ha : (I 50 2).toInt = (a : Int)) (ha24 : a ≤ 24) {T c : Nat} {w : Nat → Int32} (hD : 1 ≤ a → DR I P (52 + 20 * ((nx + 24) % 25)) w T c ∧ (w 1).toInt = (T : Int) ∧ T ≤ 5 ∧ (w 3).toInt = (c : Int) ∧ c ≤ 3 ∧ (∀ i, i < T → (w (44 + 10 * i + 2)).toInt ≤ 6) ∧ (∀ i, i < c → (w (94 + 10 * i + 2)).toInt ≤ 6)) (hs : a = 0 → R (some (.int 0)) S I P) (hok : 1 ≤ a → ∀ I', (∀ k, k < 30 ∨ 50 < k → I' k = I k) → I' 50 1 = iN ((nx + 24) % 25) → I' 50 2 = iN (a - 1) → DR I' P 30 w T c → R (some (.int 1)) S I' P) : pmX E (d + 3) 0 0 yX3_takeBack [rr E 50, rr E 30] S I P R := by
  refine pm_of (by decide) cd_X3_takeBack (by decide) (by decide) (Nat.le_of_ble_eq_true rfl) ?_
  intro C G hq
  obtain ⟨⟨a0, a1, a2, a3, a4, a5, a6, a7, a8⟩, hRG, hRdG, hWG, hDG, ⟨z1, z2, z3, z4⟩, hIG, hFG, hAG⟩ := id hX
  refine z_aload_n G dX3_takeBack_0 rfl ?_
  refine z_getI G fl_X3_21 rfl dX3_takeBack_1 (by assumption) ?_
  refine z_iconst G (v := 1) dX3_takeBack_4 (by decide) ?_
  refine z_icmp_ge G 10 dX3_takeBack_5 (by decide) (fun b5 => ?_) (fun b5 => ?_)
  · have ha1 : 1 ≤ a := by simp only [ti_lt, ti_le, Int32.reduceToInt, ha] at b5; omega
    obtain ⟨e1, e2, e3, e4, e5, e6, e7⟩ := hD ha1
    have hlt : (nx + 24) % 25 < 25 := Nat.mod_lt _ (by omega)
    refine z_aload_n G dX3_takeBack_10 rfl ?_
    refine z_dup G dX3_takeBack_11 rfl ?_
    refine z_getI G fl_X3_21 rfl dX3_takeBack_12 (by assumption) ?_
    refine z_iconst G (v := 1) dX3_takeBack_15 (by decide) ?_
    refine z_isub G dX3_takeBack_16 ?_
    refine z_top (y := iN (a - 1)) (by simp (disch := omega) only [iN_lit, iN_add, iN_sub, iN_mul, iN_an, iN_of ha] <;> exact congrArg iN (by omega)) ?_
    refine z_putI G fl_X3_21 ft_3_2 rfl rfl rfl dX3_takeBack_17 (by assumption) ?_
    refine z_aload_n G dX3_takeBack_20 rfl ?_
    refine z_aload_n G dX3_takeBack_21 rfl ?_
    refine z_getI G fl_X3_17 rfl dX3_takeBack_22 (by assumption) ?_
    try simp (disch := omega) only [va_at', va_ne', va_up_up]
    refine z_bipush G (v := 25) dX3_takeBack_25 (by decide) ?_
    refine z_iadd G dX3_takeBack_27 ?_
    refine z_iconst G (v := 1) dX3_takeBack_28 (by decide) ?_
    refine z_isub G dX3_takeBack_29 ?_
    refine z_bipush G (v := 25) dX3_takeBack_30 (by decide) ?_
    refine z_irem G dX3_takeBack_32 (by decide) ?_
    refine z_top (y := iN ((nx + 24) % 25)) (by rw [iN_of hnx, iN_lit, iN_lit, iN_add, iN_sub (by omega), iN_rem (by omega) (by omega), show nx + 25 - 1 = nx + 24 by omega]) ?_
    refine z_putI G fl_X3_17 ft_3_1 rfl rfl rfl dX3_takeBack_33 (by assumption) ?_
    try simp (disch := omega) only [va_at', va_ne', va_up_up]
    refine z_aload_n G dX3_takeBack_36 rfl ?_
    refine z_aload_n G dX3_takeBack_37 rfl ?_
    refine z_getR G fl_X3_13 rfl dX3_takeBack_38 (by assumption) (by assumption) ?_
    refine z_aload_n G dX3_takeBack_41 rfl ?_
    refine z_getI G fl_X3_17 rfl dX3_takeBack_42 (by assumption) ?_
    try simp (disch := omega) only [va_at', va_ne', va_up_up]
    refine z_aald G 2 ((nx + 24) % 25) rfl (by decide) dX3_takeBack_45 (by assumption) (iN_ti (by omega)) (by omega) (z4 _ hlt).1 ?_
    refine z_V G lk_X3_25 dX3_takeBack_46 [_] rfl rfl rfl (Nat.le_of_ble_eq_true rfl) ⟨Nat.le_refl _, Nat.le_refl _⟩ hDG.1.1 ?_
    refine k_X1_become hDG (z4 _ hlt).2 (by omega) (e1.congr (z4 _ hlt).2 e3 e5 (fun _ _ _ => rfl) (fun k _ _ => va_ne' (by omega))) e2 e3 e4 e5 e6 e7 (fun I' f1 f2 => ?_)
    refine z_iconst G (v := 1) dX3_takeBack_49 (by decide) ?_
    exact z_zret G hq dX3_takeBack_50 rfl (hok ha1 I' (fun k hk => by rw [f1 k (by omega)]; simp (disch := omega) only [va_at', va_ne', va_up_up]) (by rw [f1 _ (by omega)]; simp (disch := omega) only [va_at', va_ne', va_up_up]) (by rw [f1 _ (by omega)]; simp (disch := omega) only [va_at', va_ne', va_up_up]) f2)
  · refine z_iconst G (v := 0) dX3_takeBack_8 (by decide) ?_
    exact z_zret G hq dX3_takeBack_9 rfl (hs (by simp only [ti_lt, ti_le, Int32.reduceToInt, ha] at b5; omega))
set_option maxHeartbeats 1000000 in
set_option maxRecDepth 20000 in
theorem k_X9_undo {E : pmE} {d : Nat} {S : pmS} {I : pmI} {P : pmP} {R : Option Value → pmS → pmI → pmP → Prop} (hX : XG S P) {nx a : Nat} (hnx : (I 50 1).toInt = (nx : Int)) (hnx25 : nx < 25) (ha : (I 50 2).toInt = (a : Int)) (ha24 : a ≤ 24) {T c : Nat} {w : Nat → Int32} (hD : 1 ≤ a → DR I P (52 + 20 * ((nx + 24) % 25)) w T c ∧ (w 1).toInt = (T : Int) ∧ T ≤ 5 ∧ (w 3).toInt = (c : Int) ∧ c ≤ 3 ∧ (∀ i, i < T → (w (44 + 10 * i + 2)).toInt ≤ 6) ∧ (∀ i, i < c → (w (94 + 10 * i + 2)).toInt ≤ 6)) (hs : a = 0 → R (some (.int (-1000002))) S I P) (hok : 1 ≤ a → ∀ I', (∀ k, k < 30 ∨ 50 < k → I' k = I k) → I' 50 1 = iN ((nx + 24) % 25) → I' 50 2 = iN (a - 1) → DR I' P 30 w T c → R (some (.int (iN (a - 1)))) S I' P) : pmX E (d + 4) 0 0 yX9_undo [rr E 0] S I P R := by
  refine pm_of (by decide) cd_X9_undo (by decide) (by decide) (Nat.le_of_ble_eq_true rfl) ?_
  intro C G hq
  obtain ⟨⟨a0, a1, a2, a3, a4, a5, a6, a7, a8⟩, hRG, hRdG, hWG, hDG, ⟨z1, z2, z3, z4⟩, hIG, hFG, hAG⟩ := id hX
  refine z_aload_n G dX9_undo_0 rfl ?_
  refine z_getR G fl_X9_39 rfl dX9_undo_1 (by assumption) (by assumption) ?_
  refine z_aload_n G dX9_undo_4 rfl ?_
  refine z_getR G fl_X9_32 rfl dX9_undo_5 (by assumption) (by assumption) ?_
  refine z_V G lk_X9_191 dX9_undo_8 [_] rfl rfl rfl (Nat.le_of_ble_eq_true rfl) ⟨Nat.le_refl _, Nat.le_refl _⟩ z1 ?_
  refine k_X3_takeBack hX hnx hnx25 ha ha24 hD ?_ ?_
  · intro h0
    refine z_if_eq G 24 dX9_undo_11 (by decide) (fun _ => ?_) (fun c => absurd c (by decide))
    refine z_ldc G ct_X9_145 dX9_undo_24 ?_
    exact z_iret G hq dX9_undo_26 (hs h0)
  · intro ha1 I' f1 f2 f3 f4
    refine z_if_eq G 24 dX9_undo_11 (by decide) (fun c => absurd c (by decide)) (fun _ => ?_)
    refine z_aload_n G dX9_undo_14 rfl ?_
    refine z_getR G fl_X9_39 rfl dX9_undo_15 (by assumption) (by assumption) ?_
    refine z_getI G fl_X9_195 rfl dX9_undo_18 (by assumption) ?_
    rw [f3]
    refine z_goto G 26 dX9_undo_21 (by decide) ?_
    exact z_iret G hq dX9_undo_26 (hok ha1 I' f1 f2 f3 f4)
