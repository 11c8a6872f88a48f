set_option maxHeartbeats 1000000 in
set_option maxRecDepth 20000 in
theorem k_X7_press {E : pmE} {d : Nat} {S : pmS} {I : pmI} {P : pmP} {R : Option Value → pmS → pmI → pmP → Prop} {t g n dg : Nat} {w : Nat → Int32} {rm : Int32} {room : Prop} (hG : TabG S P t) (hWG : WebG S P g) (hap : t + 1 < g ∨ g + 2 < t) (hPR : PR I t g n w room) (hrr : (¬ rm = 0) ↔ room) (hd5 : dg < 5) (h1 : mayP w dg → ∀ I', Fr2 I I' t → PR I' t g n (doP w dg) room → R (some (.int 1)) S I' P) (h0 : ¬ mayP w dg → R (some (.int 0)) S I P) : pmX E (d + 3) 0 0 yX7_press [rr E t, rr E g, .int (iN dg), .int rm] S I P R := by
  refine pm_of (by decide) cd_X7_press (by decide) (by decide) (Nat.le_of_ble_eq_true rfl) ?_
  intro C G hq
  obtain ⟨T, τ, c, hV, hTR, hW, hrm⟩ := id hPR
  obtain ⟨v1, v2, v3, v4, v5, v6, v7, v8⟩ := id hV
  obtain ⟨s, p, hN, hpn⟩ := hV.nw
  obtain ⟨cn, c1, c2, c3, c4⟩ := v5 p hpn
  have k1 : I t 1 = w (44 + 10 * τ) := hTR.1
  have k3 : I t 3 = w (46 + 10 * τ) := by rw [hTR.2.2.1]; congr 1; omega
  have k4 : I t 4 = w (47 + 10 * τ) := by rw [hTR.2.2.2.1]; congr 1; omega
  have ksh : (I t 4).toInt = (s : Int) := by rw [k4]; exact hN.2.2.1
  have hsl : s < 6 := hN.2.2.2.1
  have kpg : I (t + 1) s = iN p := by obtain ⟨kd, hh, l, s1, u1, u2, u3, u4, u5, u6, u7, u8, u9, u10, u11⟩ := v6 τ v3.2; have hs1 : s = s1 := (by rw [show 44 + 10 * τ + 3 = 47 + 10 * τ by omega] at u9; have := hN.2.2.1; omega); rw [hTR.2.2.2.2 s (by rw [u6]; omega), show 44 + 10 * τ + 4 + s = 48 + 10 * τ + s by omega]; exact iN_of hN.2.2.2.2.1
  refine z_iload_n G dX7_press_0 rfl ?_
  refine z_if_ne G 9 dX7_press_1 (by decide) (fun b1 => ?_) (fun b1 => ?_)
  · refine z_iload_n G dX7_press_9 rfl ?_
    refine z_iconst G (v := 1) dX7_press_10 (by decide) ?_
    refine z_icmp_ne G 19 dX7_press_11 (by decide) (fun b11 => ?_) (fun b11 => ?_)
    · have hd0 : ¬ dg = 0 := fun z => b1 (by rw [z]; rfl)
      have hd1 : ¬ dg = 1 := fun z => b11 (by rw [z]; rfl)
      refine z_aload_n G dX7_press_19 rfl ?_
      refine z_aload_n G dX7_press_20 rfl ?_
      refine z_V G lk_X7_51 dX7_press_21 [] rfl rfl rfl (Nat.le_of_ble_eq_true rfl) ⟨Nat.le_refl _, Nat.le_refl _⟩ hG.1 ?_
      refine k_X7_shownPage hG ksh (by omega) ?_
      rw [kpg]
      refine z_iload_n G dX7_press_24 rfl ?_
      refine z_iconst G (v := 2) dX7_press_25 (by decide) ?_
      refine z_isub G dX7_press_26 ?_
      refine z_top (y := iN (dg - 2)) (by simp (disch := omega) only [iN_lit, iN_add, iN_sub, iN_mul, iN_an] <;> exact congrArg iN (by omega)) ?_
      refine z_V G lk_X7_55 dX7_press_27 [_, _] rfl rfl rfl (Nat.le_of_ble_eq_true rfl) ⟨Nat.le_refl _, Nat.le_refl _⟩ hWG.1 ?_
      refine k_X8_target hWG hW v1.1 v1.2.2 (iN_ti (by omega)) hpn c1 c3 ?_ ?_
      · intro jn e1 e2
        rw [iN_ti (by omega)] at e1
        obtain rfl : jn = dg - 2 := by omega
        obtain ⟨q, hq9, hqn⟩ := c4 (dg - 2) e2
        rw [iN_of hq9]
        refine z_istore G dX7_press_30 (Nat.le_of_ble_eq_true rfl) rfl ?_
        refine z_iload G dX7_press_32 rfl ?_
        refine z_ldc G ct_X7_40 dX7_press_34 ?_
        refine z_icmp_eq G 51 dX7_press_36 (by decide) (fun c => absurd c (iN_none (by omega))) (fun _ => ?_)
        refine z_aload_n G dX7_press_39 rfl ?_
        refine z_getI G fl_X7_15 rfl dX7_press_40 hG.1 ?_
        rw [k1]
        refine z_iconst G (v := 3) dX7_press_43 (by decide) ?_
        refine z_icmp_ne G 53 dX7_press_44 (by decide) (fun b44 => ?_) (fun b44 => ?_)
        · refine z_aload_n G dX7_press_53 rfl ?_
          refine z_getI G fl_X7_15 rfl dX7_press_54 hG.1 ?_
          rw [k1]
          refine z_iconst G (v := 3) dX7_press_57 (by decide) ?_
          refine z_icmp_ne G 71 dX7_press_58 (by decide) (fun _ => ?_) (fun c => absurd c b44)
          refine z_aload_n G dX7_press_71 rfl ?_
          refine z_iload G dX7_press_72 rfl ?_
          refine z_V G lk_X7_65 dX7_press_74 [_] rfl rfl rfl (Nat.le_of_ble_eq_true rfl) ⟨Nat.le_refl _, Nat.le_refl _⟩ hG.1 ?_
          refine k_X7_moveOn hG hTR (v6 τ v3.2) hN.2.2.1 (fun I' hF hmv => ?_)
          refine z_iconst G (v := 1) dX7_press_77 (by decide) ?_
          exact z_zret G hq dX7_press_78 rfl (by have hm := (hV.mayL hN c1 (by omega)).mpr ⟨e2, Or.inl b44⟩; exact h1 hm _ hF (PR.next hV hrm hW hd5 hm hF hap (fun T' t' hV' => by rw [hV.doL hN (by omega)] at hV' ⊢; rw [← hV'.pp.2, (hV.follows' hN.2.2.1 hpn c1 e2 (Or.inl b44)).pp.2]; exact TR.followN hV hN.2.2.1 hq9 hqn b44 (by rw [iN_of hq9]; exact hmv))))
        · refine z_iload_n G dX7_press_47 rfl ?_
          refine z_if_ne G 53 dX7_press_48 (by decide) (fun b48 => ?_) (fun b48 => ?_)
          · refine z_aload_n G dX7_press_53 rfl ?_
            refine z_getI G fl_X7_15 rfl dX7_press_54 hG.1 ?_
            rw [k1]
            refine z_iconst G (v := 3) dX7_press_57 (by decide) ?_
            refine z_icmp_ne G 71 dX7_press_58 (by decide) (fun c => absurd c (fun z => z b44)) (fun _ => ?_)
            refine z_aload_n G dX7_press_61 rfl ?_
            refine z_iconst G (v := 1) dX7_press_62 (by decide) ?_
            refine z_iload G dX7_press_63 rfl ?_
            refine z_V G lk_X7_61 dX7_press_65 [_, _] rfl rfl rfl (Nat.le_of_ble_eq_true rfl) ⟨Nat.le_refl _, Nat.le_refl _⟩ hG.1 ?_
            refine k_X7_begin hG (fun I' hF hfr => ?_)
            refine z_goto G 77 dX7_press_68 (by decide) ?_
            refine z_iconst G (v := 1) dX7_press_77 (by decide) ?_
            exact z_zret G hq dX7_press_78 rfl (by have hT5 : T < 5 := (hrm b44).mpr (hrr.mp b48); have hm := (hV.mayL hN c1 (by omega)).mpr ⟨e2, Or.inr hT5⟩; exact h1 hm _ hF (PR.next hV hrm hW hd5 hm hF hap (fun T' t' hV' => by rw [hV.doL hN (by omega)] at hV' ⊢; rw [← hV'.pp.2, (hV.follows' hN.2.2.1 hpn c1 e2 (Or.inr hT5)).pp.2]; exact TR.followP hV hN.2.2.1 hq9 hqn b44 hT5 (by rw [iN_of hq9]; exact hfr))))
          · refine z_iconst G (v := 0) dX7_press_51 (by decide) ?_
            exact z_zret G hq dX7_press_52 rfl (h0 (fun z => Or.elim ((hV.mayL hN c1 (by omega)).mp z).2 (fun y => y b44) (fun y => hrr.mpr ((hrm b44).mp y) b48)))
      · intro hno
        refine z_istore G dX7_press_30 (Nat.le_of_ble_eq_true rfl) rfl ?_
        refine z_iload G dX7_press_32 rfl ?_
        refine z_ldc G ct_X7_40 dX7_press_34 ?_
        refine z_icmp_eq G 51 dX7_press_36 (by decide) (fun _ => ?_) (fun c => absurd c (by decide))
        refine z_iconst G (v := 0) dX7_press_51 (by decide) ?_
        exact z_zret G hq dX7_press_52 rfl (h0 (fun z => hno (by rw [iN_ti (by omega)]; have := ((hV.mayL hN c1 (by omega)).mp z).1; omega)))
    · obtain rfl : dg = 1 := by rw [iN_lit, iN_eq (by omega) (by omega)] at b11; exact b11
      refine z_aload_n G dX7_press_14 rfl ?_
      refine z_V G lk_X7_48 dX7_press_15 [] rfl rfl rfl (Nat.le_of_ble_eq_true rfl) ⟨Nat.le_refl _, Nat.le_refl _⟩ hG.1 ?_
      refine k_X7_stepForward hG ?_ ?_
      · intro hm
        exact z_zret G hq dX7_press_18 rfl (by rw [k1, k4, k3] at hm; exact h1 (hV.mayF.mpr hm) _ (fun k a b => va_ne' a) (PR.next hV hrm hW (by omega) (hV.mayF.mpr hm) (fun k a b => va_ne' a) hap (fun T' t' hV' => by have e := hV'.pp.2; rw [hV.doG (by omega)] at hV' e ⊢; have e2 : pt (goesF w τ (iN 1)) = τ := (by unfold pt; rw [goes_off (by omega)]; exact hV.pp.2); rw [← e, e2]; exact hTR.goes (way := iN 1) (by rw [k4]; exact goes_1 rfl))))
      · intro hm
        exact z_zret G hq dX7_press_18 rfl (by rw [k1, k4, k3] at hm; exact h0 (fun z => hm (hV.mayF.mp z)))
  · obtain rfl : dg = 0 := by rw [iN_lit, iN_eq (by omega) (by omega)] at b1; exact b1
    refine z_aload_n G dX7_press_4 rfl ?_
    refine z_V G lk_X7_44 dX7_press_5 [] rfl rfl rfl (Nat.le_of_ble_eq_true rfl) ⟨Nat.le_refl _, Nat.le_refl _⟩ hG.1 ?_
    refine k_X7_stepBack hG ?_ ?_
    · intro hm
      exact z_zret G hq dX7_press_8 rfl (by rw [k1, k4] at hm; exact h1 (hV.mayB.mpr hm) _ (fun k a b => va_ne' a) (PR.next hV hrm hW (by omega) (hV.mayB.mpr hm) (fun k a b => va_ne' a) hap (fun T' t' hV' => by have e := hV'.pp.2; rw [hV.doG (by omega)] at hV' e ⊢; have e2 : pt (goesF w τ (iN 0)) = τ := (by unfold pt; rw [goes_off (by omega)]; exact hV.pp.2); rw [← e, e2]; exact hTR.goes (way := iN 0) (by rw [k4]; exact goes_0 rfl))))
    · intro hm
      exact z_zret G hq dX7_press_8 rfl (by rw [k1, k4] at hm; exact h0 (fun z => hm (hV.mayB.mp z)))
set_option maxHeartbeats 1000000 in
set_option maxRecDepth 20000 in
theorem k_X2_pressedTo_0 {E : pmE} {d : Nat} {S : pmS} {P : pmP} (hFG : FG S P) (hWG : WebG S P 27) {n pg len : Nat} {rm : Int32} {room : Prop} (hlen : len ≤ 4) (hpg : pg < 8) (hrr : (¬ rm = 0) ↔ room) : PTS E S P n pg len (d + 4) 0 rm room := by
  intro I R depth w hdl hPR h1 h0
  refine pm_of (by decide) cd_X2_pressedTo (by decide) (by decide) (Nat.le_of_ble_eq_true rfl) ?_
  intro C G hq
  obtain ⟨f1, ⟨f2, f3, f4, f5, f6, f7, f8, f9⟩, f10, f11, f12, f13, f14, f15, f16, f17, f18⟩ := id hFG
  obtain ⟨T, τ, c, hV, hTR, hW, hrm⟩ := id hPR
  obtain ⟨v1, v2, v3, v4, v5, v6, v7, v8⟩ := id hV
  obtain ⟨s, p, hN, hpn⟩ := hV.nw
  obtain ⟨cn, c1, c2, c3, c4⟩ := v5 p hpn
  have hTt := hTR
  have ksh : (I (584 + 2 * depth) 4).toInt = (s : Int) := by rw [hTR.2.2.2.1, show 44 + 10 * τ + 3 = 47 + 10 * τ by omega]; exact hN.2.2.1
  have hsl : s < 6 := hN.2.2.2.1
  have kpg : I (584 + 2 * depth + 1) s = iN p := by obtain ⟨kd, hh, l, s1, u1, u2, u3, u4, u5, u6, u7, u8, u9, u10, u11⟩ := v6 τ v3.2; have hs1 : s = s1 := (by rw [show 44 + 10 * τ + 3 = 47 + 10 * τ by omega] at u9; have := hN.2.2.1; omega); rw [hTR.2.2.2.2 s (by rw [u6]; omega), show 44 + 10 * τ + 4 + s = 48 + 10 * τ + s by omega]; exact iN_of hN.2.2.2.2.1
  refine z_iload G dX2_pressedTo_0 rfl ?_
  refine z_if_lt G 18 dX2_pressedTo_2 (by decide) (fun c => absurd c (by simp (disch := omega) only [iN_lit, iN_add, iN_sub, iN_mul, iN_an, iN_le, iN_lt, iN_eq]; omega)) (fun _ => ?_)
  refine z_iload G dX2_pressedTo_5 rfl ?_
  refine z_iload G dX2_pressedTo_7 rfl ?_
  refine z_icmp_ge G 18 dX2_pressedTo_9 (by decide) (fun _ => ?_) (fun c => absurd c (fun z => z (by simp (disch := omega) only [iN_lit, iN_add, iN_sub, iN_mul, iN_an, iN_le, iN_lt, iN_eq] <;> omega)))
  refine z_iload G dX2_pressedTo_18 rfl ?_
  refine z_if_lt G 47 dX2_pressedTo_20 (by decide) (fun c => absurd c (by simp (disch := omega) only [iN_lit, iN_add, iN_sub, iN_mul, iN_an, iN_le, iN_lt, iN_eq]; omega)) (fun _ => ?_)
  refine z_iload G dX2_pressedTo_23 rfl ?_
  refine z_iconst G (v := 4) dX2_pressedTo_25 (by decide) ?_
  refine z_icmp_gt G 47 dX2_pressedTo_26 (by decide) (fun c => absurd c (by simp (disch := omega) only [iN_lit, iN_add, iN_sub, iN_mul, iN_an, iN_le, iN_lt, iN_eq]; omega)) (fun _ => ?_)
  refine z_aload_n G dX2_pressedTo_29 rfl ?_
  refine z_getR G fl_X2_30 rfl dX2_pressedTo_30 (by assumption) (by assumption) ?_
  refine z_iload G dX2_pressedTo_33 rfl ?_
  refine z_aald G 5 (depth) rfl (by decide) dX2_pressedTo_35 f14 (iN_ti (by omega)) (by omega) (f18 (depth) (by omega)).1 ?_
  refine z_V G lk_X2_76 dX2_pressedTo_36 [] rfl rfl rfl (Nat.le_of_ble_eq_true rfl) ⟨Nat.le_refl _, Nat.le_refl _⟩ (f18 depth (by omega)).2.1 ?_
  refine k_X7_shownPage (f18 depth (by omega)).2 ksh hsl ?_
  rw [kpg]
  refine z_iload_n G dX2_pressedTo_39 rfl ?_
  refine z_icmp_ne G 47 dX2_pressedTo_40 (by decide) (fun b40 => ?_) (fun b40 => ?_)
  · refine z_iconst G (v := 0) dX2_pressedTo_47 (by decide) ?_
    exact z_zret G hq dX2_pressedTo_48 rfl (h0 (by simp only [srch]; rw [if_neg (fun z => b40 (by rw [← hN.see, z]))]) I ⟨fun _ _ _ => rfl, fun _ _ => rfl⟩)
  · refine z_iconst G (v := 1) dX2_pressedTo_43 (by decide) ?_
    refine z_goto G 48 dX2_pressedTo_44 (by decide) ?_
    exact z_zret G hq dX2_pressedTo_48 rfl (h1 [] (by simp only [srch]; rw [if_pos (by rw [hN.see]; rw [iN_eq (by omega) (by omega)] at b40; exact b40)]) I ⟨fun _ _ _ => rfl, fun _ _ => rfl⟩ (fun i hi => absurd hi (by omega)))
set_option maxHeartbeats 1000000 in
set_option maxRecDepth 20000 in
theorem k_X2_pressedTo_s {E : pmE} {d : Nat} {S : pmS} {P : pmP} (hFG : FG S P) (hWG : WebG S P 27) {n pg len : Nat} {rm : Int32} {room : Prop} (hlen : len ≤ 4) (hpg : pg < 8) (hrr : (¬ rm = 0) ↔ room) {r : Nat} (ih : PTS E S P n pg len (d + 4) r rm room) : PTS E S P n pg len (d + 5) (r + 1) rm room := by
  intro I R depth w hdl hPR h1 h0
  refine pm_of (by decide) cd_X2_pressedTo (by decide) (by decide) (Nat.le_of_ble_eq_true rfl) ?_
  intro C G hq
  obtain ⟨f1, ⟨f2, f3, f4, f5, f6, f7, f8, f9⟩, f10, f11, f12, f13, f14, f15, f16, f17, f18⟩ := id hFG
  have loop : ∀ (q e : Nat) (u : Int32) (J : pmI), u.toInt = (e : Int) → e + q = 5 → FrS I J depth → (∀ e', e' < e → srchD (srch pg r) w e' = none) → pmZ E C 52 [some (rr E 553), some (rr E 27), some (.int (iN pg)), some (.int rm), some (.int (iN depth)), some (.int (iN len)), some (.int u)] [] S J P 0 0 := by
    intro q
    induction q with
    | zero =>
      intro e u J hu hq5 hJ hno
      obtain rfl : e = 5 := by omega
      refine z_iload G dX2_pressedTo_52 rfl ?_
      refine z_iconst G (v := 5) dX2_pressedTo_54 (by decide) ?_
      refine z_icmp_ge G 129 dX2_pressedTo_55 (by decide) (fun _ => ?_) (fun c => absurd c (fun z => z (by simp (disch := omega) only [iN_lit, iN_add, iN_sub, iN_mul, iN_an, iN_le, iN_lt, iN_eq, iN_of hu] <;> omega)))
      refine z_iconst G (v := 0) dX2_pressedTo_129 (by decide) ?_
      exact z_zret G hq dX2_pressedTo_130 rfl (h0 (fstN_none 5 0 (fun e' _ b => hno e' (by omega))) J hJ)
    | succ q ihq =>
      intro e u J hu hq5 hJ hno
      obtain rfl := iN_of hu
      have hPJ : PR J (584 + 2 * depth) 27 n w room := hPR.congr (fun k _ _ => hJ.1 k (by omega) (by omega)) (fun j _ _ => by rw [hJ.1 _ (by omega) (by omega)]) (fun j _ => by rw [hJ.1 _ (by omega) (by omega)])
      refine z_iload G dX2_pressedTo_52 rfl ?_
      refine z_iconst G (v := 5) dX2_pressedTo_54 (by decide) ?_
      refine z_icmp_ge G 129 dX2_pressedTo_55 (by decide) (fun c => absurd c (by simp (disch := omega) only [iN_lit, iN_add, iN_sub, iN_mul, iN_an, iN_le, iN_lt, iN_eq]; omega)) (fun _ => ?_)
      refine z_aload_n G dX2_pressedTo_58 rfl ?_
      refine z_getR G fl_X2_30 rfl dX2_pressedTo_59 (by assumption) (by assumption) ?_
      refine z_iload G dX2_pressedTo_62 rfl ?_
      refine z_iconst G (v := 1) dX2_pressedTo_64 (by decide) ?_
      refine z_iadd G dX2_pressedTo_65 ?_
      refine z_aald G 5 (depth + 1) rfl (by decide) dX2_pressedTo_66 f14 (by simp (disch := omega) only [iN_lit, iN_add, iN_sub, iN_mul, iN_an]; exact iN_ti2 (by omega) (by omega)) (by omega) (f18 (depth + 1) (by omega)).1 ?_
      refine z_aload_n G dX2_pressedTo_67 rfl ?_
      refine z_getR G fl_X2_30 rfl dX2_pressedTo_68 (by assumption) (by assumption) ?_
      refine z_iload G dX2_pressedTo_71 rfl ?_
      refine z_aald G 5 (depth) rfl (by decide) dX2_pressedTo_73 f14 (iN_ti (by omega)) (by omega) (f18 (depth) (by omega)).1 ?_
      refine z_V G lk_X2_64 dX2_pressedTo_74 [_] rfl rfl rfl (Nat.le_of_ble_eq_true rfl) ⟨Nat.le_refl _, Nat.le_refl _⟩ (f18 (depth + 1) (by omega)).2.1 ?_
      refine k_X7_become (f18 (depth + 1) (by omega)).2 (f18 depth (by omega)).2 (by omega) (fun J1 hF1 hc1 hc2 => ?_)
      refine z_aload_n G dX2_pressedTo_77 rfl ?_
      refine z_getR G fl_X2_9 rfl dX2_pressedTo_78 (by assumption) (by assumption) ?_
      refine z_iload G dX2_pressedTo_81 rfl ?_
      refine z_iload G dX2_pressedTo_83 rfl ?_
      refine z_iast G (depth) dX2_pressedTo_85 f10 (iN_ti (by omega)) (by omega) ?_
      refine z_aload_n G dX2_pressedTo_86 rfl ?_
      refine z_getR G fl_X2_30 rfl dX2_pressedTo_87 (by assumption) (by assumption) ?_
      refine z_iload G dX2_pressedTo_90 rfl ?_
      refine z_iconst G (v := 1) dX2_pressedTo_92 (by decide) ?_
      refine z_iadd G dX2_pressedTo_93 ?_
      refine z_aald G 5 (depth + 1) rfl (by decide) dX2_pressedTo_94 f14 (by simp (disch := omega) only [iN_lit, iN_add, iN_sub, iN_mul, iN_an]; exact iN_ti2 (by omega) (by omega)) (by omega) (f18 (depth + 1) (by omega)).1 ?_
      refine z_aload_n G dX2_pressedTo_95 rfl ?_
      refine z_iload G dX2_pressedTo_96 rfl ?_
      refine z_iload_n G dX2_pressedTo_98 rfl ?_
      refine z_V G lk_X2_80 dX2_pressedTo_99 [_, _, _] rfl rfl rfl (Nat.le_of_ble_eq_true rfl) ⟨Nat.le_refl _, Nat.le_refl _⟩ (f18 (depth + 1) (by omega)).2.1 ?_
      refine k_X7_press (f18 (depth + 1) (by omega)).2 hWG (by omega) (hPJ.congr (fun k _ _ => by rw [va_ne' (by omega)]; exact hF1 k (by omega) (by omega)) (fun j a b => by rw [va_ne' (by omega)]; exact hc1 j a b) (fun j a => by rw [va_ne' (by omega)]; exact hc2 j a)) hrr (show e < 5 by omega) ?_ ?_
      · intro hm J3 hF3 hP3
        have hfr3 : ∀ k, k ≠ 554 → (k < 586 + 2 * depth ∨ 594 ≤ k) → J3 k = I k := fun k a b => by rw [hF3 k (by omega) (by omega), va_ne' a, hF1 k (by omega) (by omega)]; exact hJ.1 k a b
        have hpr3 : ∀ j, j < depth → J3 554 j = I 554 j := fun j a => by rw [hF3 554 (by omega) (by omega), va_at' rfl, va_ne' (by omega), hF1 554 (by omega) (by omega)]; exact hJ.2 j a
        have hpe3 : J3 554 depth = iN e := by rw [hF3 554 (by omega) (by omega), va_at' rfl, va_at' rfl]
        refine z_if_eq G 123 dX2_pressedTo_102 (by decide) (fun c => absurd c (by decide)) (fun _ => ?_)
        refine z_aload_n G dX2_pressedTo_105 rfl ?_
        refine z_aload_n G dX2_pressedTo_106 rfl ?_
        refine z_iload_n G dX2_pressedTo_107 rfl ?_
        refine z_iload_n G dX2_pressedTo_108 rfl ?_
        refine z_iload G dX2_pressedTo_109 rfl ?_
        refine z_iconst G (v := 1) dX2_pressedTo_111 (by decide) ?_
        refine z_iadd G dX2_pressedTo_112 ?_
        refine z_iload G dX2_pressedTo_113 rfl ?_
        refine z_top2 (y := iN (depth + 1)) (by simp (disch := omega) only [iN_lit, iN_add, iN_sub, iN_mul, iN_an] <;> exact congrArg iN (by omega)) ?_
        refine z_V G lk_X2_72 dX2_pressedTo_115 [_, _, _, _, _] rfl rfl rfl (Nat.le_of_ble_eq_true rfl) ⟨Nat.le_refl _, Nat.le_refl _⟩ f1 ?_
        refine ih J3 _ (depth + 1) (doP w e) (by omega) hP3 ?_ ?_
        · intro ds hds J4 hF4 hpr4
          refine z_if_eq G 123 dX2_pressedTo_118 (by decide) (fun c => absurd c (by decide)) (fun _ => ?_)
          refine z_iconst G (v := 1) dX2_pressedTo_121 (by decide) ?_
          exact z_zret G hq dX2_pressedTo_122 rfl (h1 (e :: ds) (fstN_some 5 0 (by omega) (by omega) (fun e' _ b => hno e' b) (srchD_some hm hds)) J4 ⟨fun k a b => (hF4.1 k a (by omega)).trans (hfr3 k a b), fun j a => (hF4.2 j (by omega)).trans (hpr3 j a)⟩ (fun i hi => by cases i with | zero => exact (hF4.2 depth (by omega)).trans hpe3 | succ i => rw [show depth + (i + 1) = depth + 1 + i by omega]; exact hpr4 i (by omega)))
        · intro hds J4 hF4
          refine z_if_eq G 123 dX2_pressedTo_118 (by decide) (fun _ => ?_) (fun c => absurd c (by decide))
          refine z_iinc G (v := 1) dX2_pressedTo_123 (by decide) rfl rfl ?_
          refine z_goto G 52 dX2_pressedTo_126 (by decide) ?_
          refine ihq (e + 1) _ J4 (by simp (disch := omega) only [iN_lit, iN_add, iN_sub, iN_mul, iN_an]; exact iN_ti2 (by omega) (by omega)) (by omega) ⟨fun k a b => (hF4.1 k a (by omega)).trans (hfr3 k a b), fun j a => (hF4.2 j (by omega)).trans (hpr3 j a)⟩ (fun e' he => ?_)
          by_cases he2 : e' = e
          · subst he2; exact srchD_none hds
          · exact hno e' (by omega)
      · intro hm
        refine z_if_eq G 123 dX2_pressedTo_102 (by decide) (fun _ => ?_) (fun c => absurd c (by decide))
        refine z_iinc G (v := 1) dX2_pressedTo_123 (by decide) rfl rfl ?_
        refine z_goto G 52 dX2_pressedTo_126 (by decide) ?_
        refine ihq (e + 1) _ _ (by simp (disch := omega) only [iN_lit, iN_add, iN_sub, iN_mul, iN_an]; exact iN_ti2 (by omega) (by omega)) (by omega) ⟨fun k a b => by rw [va_ne' a, hF1 k (by omega) (by omega)]; exact hJ.1 k a b, fun j a => by rw [va_at' rfl, va_ne' (by omega), hF1 554 (by omega) (by omega)]; exact hJ.2 j a⟩ (fun e' he => ?_)
        by_cases he2 : e' = e
        · subst he2; exact srchD_no hm
        · exact hno e' (by omega)
  refine z_iload G dX2_pressedTo_0 rfl ?_
  refine z_if_lt G 18 dX2_pressedTo_2 (by decide) (fun c => absurd c (by simp (disch := omega) only [iN_lit, iN_add, iN_sub, iN_mul, iN_an, iN_le, iN_lt, iN_eq]; omega)) (fun _ => ?_)
  refine z_iload G dX2_pressedTo_5 rfl ?_
  refine z_iload G dX2_pressedTo_7 rfl ?_
  refine z_icmp_ge G 18 dX2_pressedTo_9 (by decide) (fun c => absurd c (by simp (disch := omega) only [iN_lit, iN_add, iN_sub, iN_mul, iN_an, iN_le, iN_lt, iN_eq]; omega)) (fun _ => ?_)
  refine z_iload G dX2_pressedTo_12 rfl ?_
  refine z_iconst G (v := 4) dX2_pressedTo_14 (by decide) ?_
  refine z_icmp_lt G 49 dX2_pressedTo_15 (by decide) (fun _ => ?_) (fun c => absurd c (fun z => z (by simp (disch := omega) only [iN_lit, iN_add, iN_sub, iN_mul, iN_an, iN_le, iN_lt, iN_eq] <;> omega)))
  refine z_iconst G (v := 0) dX2_pressedTo_49 (by decide) ?_
  refine z_istore G dX2_pressedTo_50 (Nat.le_of_ble_eq_true rfl) rfl ?_
  exact loop 5 0 0 I rfl rfl ⟨fun _ _ _ => rfl, fun _ _ => rfl⟩ (fun e' h => absurd h (by omega))
theorem k_X2_pressedTo {E : pmE} {S : pmS} {P : pmP} (hFG : FG S P) (hWG : WebG S P 27) {n pg len : Nat} {rm : Int32} {room : Prop} (hlen : len ≤ 4) (hpg : pg < 8) (hrr : (¬ rm = 0) ↔ room) : ∀ r d, PTS E S P n pg len (d + r + 4) r rm room := by
  intro r
  induction r with
  | zero => intro d; exact k_X2_pressedTo_0 hFG hWG hlen hpg hrr
  | succ r ih =>
    intro d
    have := k_X2_pressedTo_s (d := d + r) hFG hWG hlen hpg hrr (ih d)
    rw [show d + (r + 1) + 4 = d + r + 5 by omega]
    exact this
set_option maxHeartbeats 1000000 in
set_option maxRecDepth 20000 in
theorem k_X2_fewestPresses {E : pmE} {d : Nat} {S : pmS} {I : pmI} {P : pmP} {R : Option Value → pmS → pmI → pmP → Prop} (hFG : FG S P) (hWG : WebG S P 27) (hG : DG S P 30) {n T t c : Nat} {w : Nat → Int32} (hD : DR I P 30 w T c) (hV : Vd w n T t c) (hW : WR I 27 w n) {pg : Nat} (hpg : pg < 8) (h1 : ∀ ds, toS w pg = some ds → ds.length ≤ 4 → ∀ J, FrF I J → (∀ i, i < ds.length → J 554 i = iN (ds.getD i 0)) → R (some (.int (iN ds.length))) S J P) (h0 : toS w pg = none → ∀ J, FrF I J → R (some (.int (-1000000))) S J P) : pmX E (d + 9) 0 0 yX2_fewestPresses [rr E 553, rr E 27, rr E 30, .int (iN pg)] S I P R := by
  refine pm_of (by decide) cd_X2_fewestPresses (by decide) (by decide) (Nat.le_of_ble_eq_true rfl) ?_
  intro C G hq
  obtain ⟨f1, ⟨f2, f3, f4, f5, f6, f7, f8, f9⟩, f10, f11, f12, f13, f14, f15, f16, f17, f18⟩ := id hFG
  obtain ⟨v1, v2, v3, v4, v5, v6, v7, v8⟩ := id hV
  obtain ⟨d1, d2, d3, d4, d5, d6⟩ := id hD
  obtain ⟨tt, ht1, ht2, ht3, ht4⟩ := hG.row (show t < 5 by omega)
  have hnow : (I 30 4).toInt = (t : Int) := by rw [d2]; exact v3.1
  have hTI : (I 30 3).toInt = (T : Int) := by rw [d1]; exact v2.1
  have hPR0 : PR I tt 27 n w (T < 5) := ⟨T, t, c, hV, d4 t v3.2 tt ht1, hW, fun _ => Iff.rfl⟩
  have loop : ∀ (r L : Nat) (u : Int32) (J : pmI), u.toInt = (L : Int) → L + r = 5 → FrF I J → PR J 584 27 n w (T < 5) → (∀ l, l < L → srch pg l w = none) → pmZ E C 35 [some (rr E 553), some (rr E 27), some (rr E 30), some (.int (iN pg)), some (.int u)] [] S J P 0 0 := by
    intro r
    induction r with
    | zero =>
      intro L u J hu hr hJ hP hno
      obtain rfl : L = 5 := by omega
      refine z_iload G dX2_fewestPresses_35 rfl ?_
      refine z_iconst G (v := 4) dX2_fewestPresses_37 (by decide) ?_
      refine z_icmp_gt G 66 dX2_fewestPresses_38 (by decide) (fun _ => ?_) (fun c => absurd c (fun z => z (by simp (disch := omega) only [iN_lit, iN_add, iN_sub, iN_mul, iN_an, iN_le, iN_lt, iN_eq, iN_of hu] <;> omega)))
      refine z_ldc G ct_X2_60 dX2_fewestPresses_66 ?_
      exact z_iret G hq dX2_fewestPresses_68 (h0 (fstN_none 5 0 (fun e' _ b => hno e' (by omega))) J hJ)
    | succ r ih =>
      intro L u J hu hr hJ hP hno
      obtain rfl := iN_of hu
      refine z_iload G dX2_fewestPresses_35 rfl ?_
      refine z_iconst G (v := 4) dX2_fewestPresses_37 (by decide) ?_
      refine z_icmp_gt G 66 dX2_fewestPresses_38 (by decide) (fun c => absurd c (by simp (disch := omega) only [iN_lit, iN_add, iN_sub, iN_mul, iN_an, iN_le, iN_lt, iN_eq]; omega)) (fun _ => ?_)
      refine z_aload_n G dX2_fewestPresses_41 rfl ?_
      refine z_aload_n G dX2_fewestPresses_42 rfl ?_
      refine z_iload_n G dX2_fewestPresses_43 rfl ?_
      refine z_aload_n G dX2_fewestPresses_44 rfl ?_
      refine z_V G lk_X2_68 dX2_fewestPresses_45 [] rfl rfl rfl (Nat.le_of_ble_eq_true rfl) ⟨Nat.le_refl _, Nat.le_refl _⟩ hG.1.1 ?_
      refine k_X1_hasRoom hG.1.1 (T := T) (by rw [hJ 30 (by omega) (by omega)]; exact hTI) ?_ ?_
      · intro hroom
        refine z_iconst G (v := 0) dX2_fewestPresses_48 (by decide) ?_
        refine z_iload G dX2_fewestPresses_49 rfl ?_
        have hPT := k_X2_pressedTo (E := E) (n := n) hFG hWG (show L ≤ 4 by omega) hpg (rm := 1) ⟨fun _ => hroom, fun _ => by decide⟩ L (d + 4 - L)
        rw [show d + 4 - L + L + 4 = d + 8 by omega] at hPT
        refine z_V G lk_X2_72 dX2_fewestPresses_51 [_, _, _, _, _] rfl rfl rfl (Nat.le_of_ble_eq_true rfl) ⟨Nat.le_refl _, Nat.le_refl _⟩ f1 ?_
        refine hPT J _ 0 w (by omega) hP ?_ ?_
        · intro ds hds J4 hF4 hpr4
          refine z_if_eq G 60 dX2_fewestPresses_54 (by decide) (fun c => absurd c (by decide)) (fun _ => ?_)
          refine z_iload G dX2_fewestPresses_57 rfl ?_
          exact z_iret G hq dX2_fewestPresses_59 (by have hl := srch_len hds; have e2 := fstN_some (f := fun L => srch pg L w) 5 0 (Nat.zero_le L) (by omega) (fun e' _ b => hno e' b) hds; have := h1 ds e2 (by omega) J4 (fun k a b => (hF4.1 k a (by omega)).trans (hJ k a b)) (fun i hi => by have := hpr4 i (by omega); rw [Nat.zero_add] at this; exact this); rw [hl] at this; exact this)
        · intro hds J4 hF4
          refine z_if_eq G 60 dX2_fewestPresses_54 (by decide) (fun _ => ?_) (fun c => absurd c (by decide))
          refine z_iinc G (v := 1) dX2_fewestPresses_60 (by decide) rfl rfl ?_
          refine z_goto G 35 dX2_fewestPresses_63 (by decide) ?_
          refine ih (L + 1) _ J4 (by simp (disch := omega) only [iN_lit, iN_add, iN_sub, iN_mul, iN_an]; exact iN_ti2 (by omega) (by omega)) (by omega) (fun k a b => (hF4.1 k a (by omega)).trans (hJ k a b)) (hP.congr (fun k _ _ => hF4.1 k (by omega) (by omega)) (fun j _ _ => by rw [hF4.1 _ (by omega) (by omega)]) (fun j _ => by rw [hF4.1 _ (by omega) (by omega)])) (fun l hl => ?_)
          by_cases he2 : l = L
          · subst he2; exact hds
          · exact hno l (by omega)
      · intro hroom
        refine z_iconst G (v := 0) dX2_fewestPresses_48 (by decide) ?_
        refine z_iload G dX2_fewestPresses_49 rfl ?_
        have hPT := k_X2_pressedTo (E := E) (n := n) hFG hWG (show L ≤ 4 by omega) hpg (rm := 0) ⟨fun z => absurd rfl z, fun z => absurd z hroom⟩ L (d + 4 - L)
        rw [show d + 4 - L + L + 4 = d + 8 by omega] at hPT
        refine z_V G lk_X2_72 dX2_fewestPresses_51 [_, _, _, _, _] rfl rfl rfl (Nat.le_of_ble_eq_true rfl) ⟨Nat.le_refl _, Nat.le_refl _⟩ f1 ?_
        refine hPT J _ 0 w (by omega) hP ?_ ?_
        · intro ds hds J4 hF4 hpr4
          refine z_if_eq G 60 dX2_fewestPresses_54 (by decide) (fun c => absurd c (by decide)) (fun _ => ?_)
          refine z_iload G dX2_fewestPresses_57 rfl ?_
          exact z_iret G hq dX2_fewestPresses_59 (by have hl := srch_len hds; have e2 := fstN_some (f := fun L => srch pg L w) 5 0 (Nat.zero_le L) (by omega) (fun e' _ b => hno e' b) hds; have := h1 ds e2 (by omega) J4 (fun k a b => (hF4.1 k a (by omega)).trans (hJ k a b)) (fun i hi => by have := hpr4 i (by omega); rw [Nat.zero_add] at this; exact this); rw [hl] at this; exact this)
        · intro hds J4 hF4
          refine z_if_eq G 60 dX2_fewestPresses_54 (by decide) (fun _ => ?_) (fun c => absurd c (by decide))
          refine z_iinc G (v := 1) dX2_fewestPresses_60 (by decide) rfl rfl ?_
          refine z_goto G 35 dX2_fewestPresses_63 (by decide) ?_
          refine ih (L + 1) _ J4 (by simp (disch := omega) only [iN_lit, iN_add, iN_sub, iN_mul, iN_an]; exact iN_ti2 (by omega) (by omega)) (by omega) (fun k a b => (hF4.1 k a (by omega)).trans (hJ k a b)) (hP.congr (fun k _ _ => hF4.1 k (by omega) (by omega)) (fun j _ _ => by rw [hF4.1 _ (by omega) (by omega)]) (fun j _ => by rw [hF4.1 _ (by omega) (by omega)])) (fun l hl => ?_)
          by_cases he2 : l = L
          · subst he2; exact hds
          · exact hno l (by omega)
  refine z_aload_n G dX2_fewestPresses_0 rfl ?_
  refine z_aload_n G dX2_fewestPresses_1 rfl ?_
  refine z_getI G fl_X2_53 rfl dX2_fewestPresses_2 hG.1.1 ?_
  refine z_V G lk_X2_56 dX2_fewestPresses_5 [_] rfl rfl rfl (Nat.le_of_ble_eq_true rfl) ⟨Nat.le_refl _, Nat.le_refl _⟩ hG.1.1 ?_
  refine k_X1_hasTab hG.1.1 hTI (by omega) (fun _ _ _ => ?_) (fun z => absurd ⟨t, hnow, v3.2⟩ z)
  refine z_if_ne G 14 dX2_fewestPresses_8 (by decide) (fun _ => ?_) (fun c => absurd c (by decide))
  refine z_aload_n G dX2_fewestPresses_14 rfl ?_
  refine z_getR G fl_X2_30 rfl dX2_fewestPresses_15 (by assumption) (by assumption) ?_
  refine z_iconst G (v := 0) dX2_fewestPresses_18 (by decide) ?_
  refine z_aald G 5 (0) rfl (by decide) dX2_fewestPresses_19 f14 (rfl) (by decide) (f18 (0) (by omega)).1 ?_
  refine z_aload_n G dX2_fewestPresses_20 rfl ?_
  refine z_getR G fl_X2_61 rfl dX2_fewestPresses_21 hG.1.1 hG.1.2.1 ?_
  refine z_aload_n G dX2_fewestPresses_24 rfl ?_
  refine z_getI G fl_X2_53 rfl dX2_fewestPresses_25 hG.1.1 ?_
  refine z_aald G 5 (t) rfl (by decide) dX2_fewestPresses_28 hG.1.2.2.2.2.1 (hnow) (by omega) ht1 ?_
  refine z_V G lk_X2_64 dX2_fewestPresses_29 [_] rfl rfl rfl (Nat.le_of_ble_eq_true rfl) ⟨Nat.le_refl _, Nat.le_refl _⟩ (f18 0 (by omega)).2.1 ?_
  refine k_X7_become (f18 0 (by omega)).2 ht2 (by omega) (fun J1 hF1 hc1 hc2 => ?_)
  refine z_iconst G (v := 0) dX2_fewestPresses_32 (by decide) ?_
  refine z_istore G dX2_fewestPresses_33 (Nat.le_of_ble_eq_true rfl) rfl ?_
  exact loop 5 0 0 J1 rfl rfl (fun k a b => hF1 k (by omega) (by omega)) (hPR0.congr (fun k _ _ => hF1 k (by omega) (by omega)) hc1 hc2) (fun l hl => absurd hl (by omega))
set_option maxHeartbeats 1000000 in
set_option maxRecDepth 20000 in
theorem k_X9_to {E : pmE} {d : Nat} {S : pmS} {I : pmI} {P : pmP} {R : Option Value → pmS → pmI → pmP → Prop} (hX : XG S P) {n T t c : Nat} {w : Nat → Int32} (hD : DR I P 30 w T c) (hV : Vd w n T t c) (hW : WR I 27 w n) {page k : Int32} (hb : (¬ ∃ q : Nat, page.toInt = (q : Int) ∧ q < n ∧ -1 ≤ k.toInt) → R (some (.int (-1000001))) S I P) (h : ∀ (J : pmI) (pg : Nat), FrF I J → page.toInt = (pg : Int) → pg < n → R (some (.int (toV (toS w pg) k))) S J P) : pmX E (d + 10) 0 0 yX9_to [rr E 0, .int page, .int k] S I P R := by
  refine pm_of (by decide) cd_X9_to (by decide) (by decide) (Nat.le_of_ble_eq_true rfl) ?_
  intro C G hq
  obtain ⟨⟨a0, a1, a2, a3, a4, a5, a6, a7, a8⟩, hRG, hRdG, hWG, hDG, ⟨z1, z2, z3, z4⟩, hIG, hFG, hAG⟩ := id hX
  obtain ⟨v1, v2, v3, v4, v5, v6, v7, v8⟩ := id hV
  obtain ⟨f1, ⟨f2, f3, f4, f5, f6, f7, f8, f9⟩, f10, f11, f12, f13, f14, f15, f16, f17, f18⟩ := id hFG
  refine z_aload_n G dX9_to_0 rfl ?_
  refine z_getR G fl_X9_25 rfl dX9_to_1 (by assumption) (by assumption) ?_
  refine z_iload_n G dX9_to_4 rfl ?_
  refine z_V G lk_X9_179 dX9_to_5 [_] rfl rfl rfl (Nat.le_of_ble_eq_true rfl) ⟨Nat.le_refl _, Nat.le_refl _⟩ hWG.1 ?_
  refine k_X8_hasPage hWG.1 (by rw [hW.1]; exact v1.1) ?_ ?_
  · intro q hq1 hq2
    refine z_if_eq G 16 dX9_to_8 (by decide) (fun c => absurd c (by decide)) (fun _ => ?_)
    refine z_iload_n G dX9_to_11 rfl ?_
    refine z_iconst G (v := -1) dX9_to_12 (by decide) ?_
    refine z_icmp_ge G 19 dX9_to_13 (by decide) (fun b13 => ?_) (fun b13 => ?_)
    · refine z_aload_n G dX9_to_19 rfl ?_
      refine z_getR G fl_X9_52 rfl dX9_to_20 (by assumption) (by assumption) ?_
      refine z_aload_n G dX9_to_23 rfl ?_
      refine z_getR G fl_X9_25 rfl dX9_to_24 (by assumption) (by assumption) ?_
      refine z_aload_n G dX9_to_27 rfl ?_
      refine z_getR G fl_X9_32 rfl dX9_to_28 (by assumption) (by assumption) ?_
      refine z_iload_n G dX9_to_31 rfl ?_
      refine z_top (y := iN q) (iN_of hq1) ?_
      refine z_V G lk_X9_235 dX9_to_32 [_, _, _] rfl rfl rfl (Nat.le_of_ble_eq_true rfl) ⟨Nat.le_refl _, Nat.le_refl _⟩ f1 ?_
      refine k_X2_fewestPresses hFG hWG hDG hD hV hW (by omega) ?_ ?_
      · intro ds hts hl J hJ hpr
        refine z_istore_n G dX9_to_35 (Nat.le_of_ble_eq_true rfl) rfl ?_
        refine z_iload_n G dX9_to_36 rfl ?_
        refine z_ldc G ct_X9_215 dX9_to_37 ?_
        refine z_icmp_eq G 47 dX9_to_39 (by decide) (fun c => absurd c (iN_none (by omega))) (fun _ => ?_)
        refine z_iload_n G dX9_to_42 rfl ?_
        refine z_iconst G (v := -1) dX9_to_43 (by decide) ?_
        refine z_icmp_ne G 49 dX9_to_44 (by decide) (fun b44 => ?_) (fun b44 => ?_)
        · have hk0 : 0 ≤ k.toInt := by have h9 : ¬ k.toInt = -1 := fun z => b44 (by rw [ti_eq]; exact z); rw [ti_le, show (-1 : Int32).toInt = -1 from rfl] at b13; omega
          refine z_iload_n G dX9_to_49 rfl ?_
          refine z_iload_n G dX9_to_50 rfl ?_
          refine z_icmp_ge G 66 dX9_to_51 (by decide) (fun b51 => ?_) (fun b51 => ?_)
          · refine z_ldc G ct_X9_215 dX9_to_66 ?_
            exact z_iret G hq dX9_to_68 (by have := h J q hJ hq1 hq2; rw [hts] at this; simp only [toV] at this; rw [if_neg b44, if_neg (by simp only [ti_lt, ti_le] at *; omega)] at this; exact this)
          · refine z_aload_n G dX9_to_54 rfl ?_
            refine z_getR G fl_X9_52 rfl dX9_to_55 (by assumption) (by assumption) ?_
            refine z_getR G fl_X9_239 rfl dX9_to_58 (by assumption) (by assumption) ?_
            refine z_iload_n G dX9_to_61 rfl ?_
            have hlt : tn k < ds.length := by simp only [ti_le, iN_ti (show ds.length < 2147483648 by omega)] at b51; unfold tn; omega
            refine z_iald G (tn k) dX9_to_62 f10 (tn_of hk0) (by omega) ?_
            refine z_goto G 68 dX9_to_63 (by decide) ?_
            exact z_iret G hq dX9_to_68 (by rw [hpr _ hlt]; have := h J q hJ hq1 hq2; rw [hts] at this; simp only [toV] at this; rw [if_neg b44, if_pos (by simp only [ti_lt, ti_le] at *; omega)] at this; exact this)
        · refine z_iload_n G dX9_to_47 rfl ?_
          exact z_iret G hq dX9_to_48 (by have := h J q hJ hq1 hq2; rw [hts] at this; simp only [toV] at this; rw [if_pos b44] at this; exact this)
      · intro hts J hJ
        refine z_istore_n G dX9_to_35 (Nat.le_of_ble_eq_true rfl) rfl ?_
        refine z_iload_n G dX9_to_36 rfl ?_
        refine z_ldc G ct_X9_215 dX9_to_37 ?_
        refine z_icmp_eq G 47 dX9_to_39 (by decide) (fun _ => ?_) (fun c => absurd c (by decide))
        refine z_iload_n G dX9_to_47 rfl ?_
        exact z_iret G hq dX9_to_48 (by have := h J q hJ hq1 hq2; rw [hts] at this; exact this)
    · refine z_ldc G ct_X9_73 dX9_to_16 ?_
      exact z_iret G hq dX9_to_18 (hb (fun ⟨q, _, _, q1⟩ => b13 (by rw [ti_le]; exact q1)))
  · intro hno
    refine z_if_eq G 16 dX9_to_8 (by decide) (fun _ => ?_) (fun c => absurd c (by decide))
    refine z_ldc G ct_X9_73 dX9_to_16 ?_
    exact z_iret G hq dX9_to_18 (hb (fun ⟨q, q1, q2, _⟩ => hno ⟨q, q1, q2⟩))
