set_option maxHeartbeats 1000000 in
set_option maxRecDepth 20000 in
theorem k_X2_guessNow {E : pmE} {d : Nat} {S : pmS} {I : pmI} {P : pmP} {R : Option Value → pmS → pmI → pmP → Prop} (hFG : FG S P) (hG : DG S P 30) {n T t c : Nat} {w : Nat → Int32} (hD : DR I P 30 w T c) (hV : Vd w n T t c) (h : ∀ J, FrG I J → TR J 578 w (44 + 10 * t) → R none S J P) : pmX E (d + 2) 0 0 yX2_guessNow [rr E 553, rr E 30] S I P R := by
  refine pm_of (by decide) cd_X2_guessNow (by decide) (by decide) (Nat.le_of_ble_eq_true rfl) ?_
  intro C G hq
  obtain ⟨f1, ⟨f2, f3, f4, f5, f6, f7, f8, f9⟩, f10, f11, f12, f13, f14, f15, f16, f17, f18⟩ := id hFG
  obtain ⟨v1, v2, v3, v4, v5, v6, v7, v8⟩ := id hV
  obtain ⟨d1, d2, d3, d4, d5, d6⟩ := id hD
  obtain ⟨tt, ht1, ht2, ht3, ht4⟩ := hG.row (show t < 5 by omega)
  have hnow : (I 30 4).toInt = (t : Int) := by rw [d2]; exact v3.1
  have hTI : (I 30 3).toInt = (T : Int) := by rw [d1]; exact v2.1
  refine z_aload_n G dX2_guessNow_0 rfl ?_
  refine z_aload_n G dX2_guessNow_1 rfl ?_
  refine z_getI G fl_X2_53 rfl dX2_guessNow_2 hG.1.1 ?_
  refine z_V G lk_X2_56 dX2_guessNow_5 [_] rfl rfl rfl (Nat.le_of_ble_eq_true rfl) ⟨Nat.le_refl _, Nat.le_refl _⟩ hG.1.1 ?_
  refine k_X1_hasTab hG.1.1 hTI (by omega) (fun _ _ _ => ?_) (fun z => absurd ⟨t, hnow, v3.2⟩ z)
  refine z_if_eq G 27 dX2_guessNow_8 (by decide) (fun c => absurd c (by decide)) (fun _ => ?_)
  refine z_aload_n G dX2_guessNow_11 rfl ?_
  refine z_getR G fl_X2_35 rfl dX2_guessNow_12 (by assumption) (by assumption) ?_
  refine z_aload_n G dX2_guessNow_15 rfl ?_
  refine z_getR G fl_X2_61 rfl dX2_guessNow_16 hG.1.1 hG.1.2.1 ?_
  refine z_aload_n G dX2_guessNow_19 rfl ?_
  refine z_getI G fl_X2_53 rfl dX2_guessNow_20 hG.1.1 ?_
  refine z_aald G 5 (t) rfl (by decide) dX2_guessNow_23 hG.1.2.2.2.2.1 (hnow) (by omega) ht1 ?_
  refine z_V G lk_X2_64 dX2_guessNow_24 [_] rfl rfl rfl (Nat.le_of_ble_eq_true rfl) ⟨Nat.le_refl _, Nat.le_refl _⟩ f15.1 ?_
  refine k_X7_become f15 ht2 (by omega) (fun J hF hc1 hc2 => ?_)
  exact z_vret G hq dX2_guessNow_27 (h J (fun k a b => hF k a b) (by obtain ⟨a1, a2, a3, a4, a5⟩ := d4 t v3.2 tt ht1; have hl := (v6 t v3.2).l6; exact ⟨by rw [hc1 1 (by omega) (by omega)]; exact a1, by rw [hc1 2 (by omega) (by omega)]; exact a2, by rw [hc1 3 (by omega) (by omega)]; exact a3, by rw [hc1 4 (by omega) (by omega)]; exact a4, fun j hj => by rw [hc2 j (by omega)]; exact a5 j hj⟩))
set_option maxHeartbeats 1000000 in
set_option maxRecDepth 20000 in
theorem k_X2_bitIfFits {E : pmE} {d : Nat} {S : pmS} {I : pmI} {P : pmP} {R : Option Value → pmS → pmI → pmP → Prop} (hFG : FG S P) {g n T K : Nat} (hWG : WebG S P g) (hg : g + 2 < 578 ∨ 579 < g) (hod : OB S 30 1) (hTI : (I 30 3).toInt = (T : Int)) {w tl : Nat → Int32} {bit : Int32} (hK : (I 553 8).toInt = (K : Int)) (hK12 : K ≤ 12) (htl : ∀ k, k < K → I 583 k = tl k) (hgb : g + 2 < 553 ∨ 553 < g) (hPR : PR I 578 g n w (T < 5)) (h1 : fitL tl K 0 w → ∀ J, FrG I J → R (some (.int (1 <<< (bit &&& 31)))) S J P) (h0 : ¬ fitL tl K 0 w → ∀ J, FrG I J → R (some (.int 0)) S J P) : pmX E (d + 4) 0 0 yX2_bitIfFits [rr E 553, rr E g, rr E 30, .int bit] S I P R := by
  refine pm_of (by decide) cd_X2_bitIfFits (by decide) (by decide) (Nat.le_of_ble_eq_true rfl) ?_
  intro C G hq
  obtain ⟨f1, ⟨f2, f3, f4, f5, f6, f7, f8, f9⟩, f10, f11, f12, f13, f14, f15, f16, f17, f18⟩ := id hFG
  have loop : ∀ (r k : Nat) (u : Int32) (J : pmI) (v : Nat → Int32), u.toInt = (k : Int) → k + r = K → FrG I J → PR J 578 g n v (T < 5) → (fitL tl K 0 w ↔ fitL tl r k v) → pmZ E C 3 [some (rr E 553), some (rr E g), some (rr E 30), some (.int bit), some (.int u)] [] S J P 0 0 := by
    intro r
    induction r with
    | zero =>
      intro k u J v hu hr hJ hP hfit
      obtain rfl : k = K := by omega
      have hKJ : (J 553 8).toInt = (k : Int) := by rw [hJ 553 (by omega) (by omega)]; exact hK
      refine z_iload G dX2_bitIfFits_3 rfl ?_
      refine z_aload_n G dX2_bitIfFits_5 rfl ?_
      refine z_getI G fl_X2_49 rfl dX2_bitIfFits_6 (by assumption) ?_
      refine z_icmp_ge G 51 dX2_bitIfFits_9 (by decide) (fun _ => ?_) (fun c => absurd c (fun z => z (by simp (disch := omega) only [iN_lit, iN_add, iN_sub, iN_mul, iN_an, iN_le, iN_lt, iN_eq, iN_of hu, iN_of hKJ] <;> omega)))
      refine z_iconst G (v := 1) dX2_bitIfFits_51 (by decide) ?_
      refine z_iload_n G dX2_bitIfFits_52 rfl ?_
      refine z_ishl G dX2_bitIfFits_53 ?_
      exact z_iret G hq dX2_bitIfFits_54 (h1 (hfit.mpr trivial) J hJ)
    | succ r ih =>
      intro k u J v hu hr hJ hP hfit
      have hKJ : (J 553 8).toInt = (K : Int) := by rw [hJ 553 (by omega) (by omega)]; exact hK
      refine z_iload G dX2_bitIfFits_3 rfl ?_
      refine z_aload_n G dX2_bitIfFits_5 rfl ?_
      refine z_getI G fl_X2_49 rfl dX2_bitIfFits_6 (by assumption) ?_
      refine z_icmp_ge G 51 dX2_bitIfFits_9 (by decide) (fun c => absurd c (by simp (disch := omega) only [iN_lit, iN_add, iN_sub, iN_mul, iN_an, iN_le, iN_lt, iN_eq, iN_of hu, iN_of hKJ]; omega)) (fun _ => ?_)
      refine z_aload_n G dX2_bitIfFits_12 rfl ?_
      refine z_getR G fl_X2_35 rfl dX2_bitIfFits_13 (by assumption) (by assumption) ?_
      refine z_aload_n G dX2_bitIfFits_16 rfl ?_
      refine z_iconst G (v := 2) dX2_bitIfFits_17 (by decide) ?_
      refine z_aload_n G dX2_bitIfFits_18 rfl ?_
      refine z_V G lk_X2_68 dX2_bitIfFits_19 [] rfl rfl rfl (Nat.le_of_ble_eq_true rfl) ⟨Nat.le_refl _, Nat.le_refl _⟩ hod ?_
      refine k_X1_hasRoom hod (T := T) (by rw [hJ 30 (by omega) (by omega)]; exact hTI) ?_ ?_
      · intro hroom
        refine z_V G lk_X2_80 dX2_bitIfFits_22 [_, _, _] rfl rfl rfl (Nat.le_of_ble_eq_true rfl) ⟨Nat.le_refl _, Nat.le_refl _⟩ f15.1 ?_
        refine k_X7_press f15 hWG (by omega) hP (rm := 1) ⟨fun _ => hroom, fun _ => by decide⟩ (dg := 2) (by omega) ?_ ?_
        · intro hm J2 hF2 hP2
          have hPs : PR J2 578 g n (stF v) (T < 5) := by rw [stF_y hm]; exact hP2
          obtain ⟨T1, τ1, c1, hV1, hTR1, hW1, _⟩ := id hPs
          obtain ⟨s1, p1, hN1, hpn1⟩ := hV1.nw
          have ksh : (J2 578 4).toInt = (s1 : Int) := by rw [hTR1.2.2.2.1, show 44 + 10 * τ1 + 3 = 47 + 10 * τ1 by omega]; exact hN1.2.2.1
          have hsl : s1 < 6 := hN1.2.2.2.1
          have kpg : J2 579 s1 = iN p1 := by obtain ⟨kd, hh, l, s2, u1, u2, u3, u4, u5, u6, u7, u8, u9, u10, u11⟩ := hV1.2.2.2.2.2.1 τ1 hV1.2.2.1.2; have hs1 : s1 = s2 := (by rw [show 44 + 10 * τ1 + 3 = 47 + 10 * τ1 by omega] at u9; have := hN1.2.2.1; omega); have h9 := hTR1.2.2.2.2 s1 (by rw [u6]; omega); rw [show 44 + 10 * τ1 + 4 + s1 = 48 + 10 * τ1 + s1 by omega] at h9; exact h9.trans (iN_of hN1.2.2.2.2.1)
          have hsee := hN1.see
          refine z_pop G dX2_bitIfFits_25 rfl ?_
          refine z_aload_n G dX2_bitIfFits_26 rfl ?_
          refine z_getR G fl_X2_35 rfl dX2_bitIfFits_27 (by assumption) (by assumption) ?_
          refine z_V G lk_X2_76 dX2_bitIfFits_30 [] rfl rfl rfl (Nat.le_of_ble_eq_true rfl) ⟨Nat.le_refl _, Nat.le_refl _⟩ f15.1 ?_
          refine k_X7_shownPage f15 ksh hsl ?_
          rw [show (578 + 1) = 579 from rfl, kpg]
          refine z_aload_n G dX2_bitIfFits_33 rfl ?_
          refine z_getR G fl_X2_46 rfl dX2_bitIfFits_34 (by assumption) (by assumption) ?_
          refine z_iload G dX2_bitIfFits_37 rfl ?_
          refine z_iald G (k) dX2_bitIfFits_39 f17 (hu) (by omega) ?_
          rw [show J2 583 k = tl k from by rw [hF2 583 (by omega) (by omega), hJ 583 (by omega) (by omega)]; exact htl k (by omega)]
          refine z_icmp_eq G 45 dX2_bitIfFits_40 (by decide) (fun b40 => ?_) (fun b40 => ?_)
          · refine z_iinc G (v := 1) dX2_bitIfFits_45 (by decide) rfl rfl ?_
            refine z_goto G 3 dX2_bitIfFits_48 (by decide) ?_
            exact ih (k + 1) _ J2 (stF v) (by simp (disch := omega) only [iN_lit, iN_add, iN_sub, iN_mul, iN_an, iN_of hu]; exact iN_ti2 (by omega) (by omega)) (by omega) (fun q a b => (hF2 q a b).trans (hJ q a b)) hPs (hfit.trans ⟨fun z => z.2, fun z => ⟨by rw [hsee]; exact b40, z⟩⟩)
          · refine z_iconst G (v := 0) dX2_bitIfFits_43 (by decide) ?_
            exact z_iret G hq dX2_bitIfFits_44 (h0 (fun z => b40 (by have := (hfit.mp z).1; rw [hsee] at this; exact this)) J2 (fun q a b => (hF2 q a b).trans (hJ q a b)))
        · intro hm
          have hP2 := hP
          have hF2 : Fr2 J J 578 := fun _ _ _ => rfl
          have hPs : PR J 578 g n (stF v) (T < 5) := by rw [stF_n hm]; exact hP2
          obtain ⟨T1, τ1, c1, hV1, hTR1, hW1, _⟩ := id hPs
          obtain ⟨s1, p1, hN1, hpn1⟩ := hV1.nw
          have ksh : (J 578 4).toInt = (s1 : Int) := by rw [hTR1.2.2.2.1, show 44 + 10 * τ1 + 3 = 47 + 10 * τ1 by omega]; exact hN1.2.2.1
          have hsl : s1 < 6 := hN1.2.2.2.1
          have kpg : J 579 s1 = iN p1 := by obtain ⟨kd, hh, l, s2, u1, u2, u3, u4, u5, u6, u7, u8, u9, u10, u11⟩ := hV1.2.2.2.2.2.1 τ1 hV1.2.2.1.2; have hs1 : s1 = s2 := (by rw [show 44 + 10 * τ1 + 3 = 47 + 10 * τ1 by omega] at u9; have := hN1.2.2.1; omega); have h9 := hTR1.2.2.2.2 s1 (by rw [u6]; omega); rw [show 44 + 10 * τ1 + 4 + s1 = 48 + 10 * τ1 + s1 by omega] at h9; exact h9.trans (iN_of hN1.2.2.2.2.1)
          have hsee := hN1.see
          refine z_pop G dX2_bitIfFits_25 rfl ?_
          refine z_aload_n G dX2_bitIfFits_26 rfl ?_
          refine z_getR G fl_X2_35 rfl dX2_bitIfFits_27 (by assumption) (by assumption) ?_
          refine z_V G lk_X2_76 dX2_bitIfFits_30 [] rfl rfl rfl (Nat.le_of_ble_eq_true rfl) ⟨Nat.le_refl _, Nat.le_refl _⟩ f15.1 ?_
          refine k_X7_shownPage f15 ksh hsl ?_
          rw [show (578 + 1) = 579 from rfl, kpg]
          refine z_aload_n G dX2_bitIfFits_33 rfl ?_
          refine z_getR G fl_X2_46 rfl dX2_bitIfFits_34 (by assumption) (by assumption) ?_
          refine z_iload G dX2_bitIfFits_37 rfl ?_
          refine z_iald G (k) dX2_bitIfFits_39 f17 (hu) (by omega) ?_
          rw [show J 583 k = tl k from by rw [hF2 583 (by omega) (by omega), hJ 583 (by omega) (by omega)]; exact htl k (by omega)]
          refine z_icmp_eq G 45 dX2_bitIfFits_40 (by decide) (fun b40 => ?_) (fun b40 => ?_)
          · refine z_iinc G (v := 1) dX2_bitIfFits_45 (by decide) rfl rfl ?_
            refine z_goto G 3 dX2_bitIfFits_48 (by decide) ?_
            exact ih (k + 1) _ J (stF v) (by simp (disch := omega) only [iN_lit, iN_add, iN_sub, iN_mul, iN_an, iN_of hu]; exact iN_ti2 (by omega) (by omega)) (by omega) (fun q a b => (hF2 q a b).trans (hJ q a b)) hPs (hfit.trans ⟨fun z => z.2, fun z => ⟨by rw [hsee]; exact b40, z⟩⟩)
          · refine z_iconst G (v := 0) dX2_bitIfFits_43 (by decide) ?_
            exact z_iret G hq dX2_bitIfFits_44 (h0 (fun z => b40 (by have := (hfit.mp z).1; rw [hsee] at this; exact this)) J (fun q a b => (hF2 q a b).trans (hJ q a b)))
      · intro hroom
        refine z_V G lk_X2_80 dX2_bitIfFits_22 [_, _, _] rfl rfl rfl (Nat.le_of_ble_eq_true rfl) ⟨Nat.le_refl _, Nat.le_refl _⟩ f15.1 ?_
        refine k_X7_press f15 hWG (by omega) hP (rm := 0) ⟨fun z => absurd rfl z, fun z => absurd z hroom⟩ (dg := 2) (by omega) ?_ ?_
        · intro hm J2 hF2 hP2
          have hPs : PR J2 578 g n (stF v) (T < 5) := by rw [stF_y hm]; exact hP2
          obtain ⟨T1, τ1, c1, hV1, hTR1, hW1, _⟩ := id hPs
          obtain ⟨s1, p1, hN1, hpn1⟩ := hV1.nw
          have ksh : (J2 578 4).toInt = (s1 : Int) := by rw [hTR1.2.2.2.1, show 44 + 10 * τ1 + 3 = 47 + 10 * τ1 by omega]; exact hN1.2.2.1
          have hsl : s1 < 6 := hN1.2.2.2.1
          have kpg : J2 579 s1 = iN p1 := by obtain ⟨kd, hh, l, s2, u1, u2, u3, u4, u5, u6, u7, u8, u9, u10, u11⟩ := hV1.2.2.2.2.2.1 τ1 hV1.2.2.1.2; have hs1 : s1 = s2 := (by rw [show 44 + 10 * τ1 + 3 = 47 + 10 * τ1 by omega] at u9; have := hN1.2.2.1; omega); have h9 := hTR1.2.2.2.2 s1 (by rw [u6]; omega); rw [show 44 + 10 * τ1 + 4 + s1 = 48 + 10 * τ1 + s1 by omega] at h9; exact h9.trans (iN_of hN1.2.2.2.2.1)
          have hsee := hN1.see
          refine z_pop G dX2_bitIfFits_25 rfl ?_
          refine z_aload_n G dX2_bitIfFits_26 rfl ?_
          refine z_getR G fl_X2_35 rfl dX2_bitIfFits_27 (by assumption) (by assumption) ?_
          refine z_V G lk_X2_76 dX2_bitIfFits_30 [] rfl rfl rfl (Nat.le_of_ble_eq_true rfl) ⟨Nat.le_refl _, Nat.le_refl _⟩ f15.1 ?_
          refine k_X7_shownPage f15 ksh hsl ?_
          rw [show (578 + 1) = 579 from rfl, kpg]
          refine z_aload_n G dX2_bitIfFits_33 rfl ?_
          refine z_getR G fl_X2_46 rfl dX2_bitIfFits_34 (by assumption) (by assumption) ?_
          refine z_iload G dX2_bitIfFits_37 rfl ?_
          refine z_iald G (k) dX2_bitIfFits_39 f17 (hu) (by omega) ?_
          rw [show J2 583 k = tl k from by rw [hF2 583 (by omega) (by omega), hJ 583 (by omega) (by omega)]; exact htl k (by omega)]
          refine z_icmp_eq G 45 dX2_bitIfFits_40 (by decide) (fun b40 => ?_) (fun b40 => ?_)
          · refine z_iinc G (v := 1) dX2_bitIfFits_45 (by decide) rfl rfl ?_
            refine z_goto G 3 dX2_bitIfFits_48 (by decide) ?_
            exact ih (k + 1) _ J2 (stF v) (by simp (disch := omega) only [iN_lit, iN_add, iN_sub, iN_mul, iN_an, iN_of hu]; exact iN_ti2 (by omega) (by omega)) (by omega) (fun q a b => (hF2 q a b).trans (hJ q a b)) hPs (hfit.trans ⟨fun z => z.2, fun z => ⟨by rw [hsee]; exact b40, z⟩⟩)
          · refine z_iconst G (v := 0) dX2_bitIfFits_43 (by decide) ?_
            exact z_iret G hq dX2_bitIfFits_44 (h0 (fun z => b40 (by have := (hfit.mp z).1; rw [hsee] at this; exact this)) J2 (fun q a b => (hF2 q a b).trans (hJ q a b)))
        · intro hm
          have hP2 := hP
          have hF2 : Fr2 J J 578 := fun _ _ _ => rfl
          have hPs : PR J 578 g n (stF v) (T < 5) := by rw [stF_n hm]; exact hP2
          obtain ⟨T1, τ1, c1, hV1, hTR1, hW1, _⟩ := id hPs
          obtain ⟨s1, p1, hN1, hpn1⟩ := hV1.nw
          have ksh : (J 578 4).toInt = (s1 : Int) := by rw [hTR1.2.2.2.1, show 44 + 10 * τ1 + 3 = 47 + 10 * τ1 by omega]; exact hN1.2.2.1
          have hsl : s1 < 6 := hN1.2.2.2.1
          have kpg : J 579 s1 = iN p1 := by obtain ⟨kd, hh, l, s2, u1, u2, u3, u4, u5, u6, u7, u8, u9, u10, u11⟩ := hV1.2.2.2.2.2.1 τ1 hV1.2.2.1.2; have hs1 : s1 = s2 := (by rw [show 44 + 10 * τ1 + 3 = 47 + 10 * τ1 by omega] at u9; have := hN1.2.2.1; omega); have h9 := hTR1.2.2.2.2 s1 (by rw [u6]; omega); rw [show 44 + 10 * τ1 + 4 + s1 = 48 + 10 * τ1 + s1 by omega] at h9; exact h9.trans (iN_of hN1.2.2.2.2.1)
          have hsee := hN1.see
          refine z_pop G dX2_bitIfFits_25 rfl ?_
          refine z_aload_n G dX2_bitIfFits_26 rfl ?_
          refine z_getR G fl_X2_35 rfl dX2_bitIfFits_27 (by assumption) (by assumption) ?_
          refine z_V G lk_X2_76 dX2_bitIfFits_30 [] rfl rfl rfl (Nat.le_of_ble_eq_true rfl) ⟨Nat.le_refl _, Nat.le_refl _⟩ f15.1 ?_
          refine k_X7_shownPage f15 ksh hsl ?_
          rw [show (578 + 1) = 579 from rfl, kpg]
          refine z_aload_n G dX2_bitIfFits_33 rfl ?_
          refine z_getR G fl_X2_46 rfl dX2_bitIfFits_34 (by assumption) (by assumption) ?_
          refine z_iload G dX2_bitIfFits_37 rfl ?_
          refine z_iald G (k) dX2_bitIfFits_39 f17 (hu) (by omega) ?_
          rw [show J 583 k = tl k from by rw [hF2 583 (by omega) (by omega), hJ 583 (by omega) (by omega)]; exact htl k (by omega)]
          refine z_icmp_eq G 45 dX2_bitIfFits_40 (by decide) (fun b40 => ?_) (fun b40 => ?_)
          · refine z_iinc G (v := 1) dX2_bitIfFits_45 (by decide) rfl rfl ?_
            refine z_goto G 3 dX2_bitIfFits_48 (by decide) ?_
            exact ih (k + 1) _ J (stF v) (by simp (disch := omega) only [iN_lit, iN_add, iN_sub, iN_mul, iN_an, iN_of hu]; exact iN_ti2 (by omega) (by omega)) (by omega) (fun q a b => (hF2 q a b).trans (hJ q a b)) hPs (hfit.trans ⟨fun z => z.2, fun z => ⟨by rw [hsee]; exact b40, z⟩⟩)
          · refine z_iconst G (v := 0) dX2_bitIfFits_43 (by decide) ?_
            exact z_iret G hq dX2_bitIfFits_44 (h0 (fun z => b40 (by have := (hfit.mp z).1; rw [hsee] at this; exact this)) J (fun q a b => (hF2 q a b).trans (hJ q a b)))
  refine z_iconst G (v := 0) dX2_bitIfFits_0 (by decide) ?_
  refine z_istore G dX2_bitIfFits_1 (Nat.le_of_ble_eq_true rfl) rfl ?_
  exact loop K 0 0 I w rfl (by omega) (fun _ _ _ => rfl) hPR Iff.rfl
set_option maxHeartbeats 1000000 in
set_option maxRecDepth 20000 in
theorem k_X2_fittingKinds {E : pmE} {d : Nat} {S : pmS} {I : pmI} {P : pmP} {R : Option Value → pmS → pmI → pmP → Prop} (hFG : FG S P) (hWG : WebG S P 27) (hG : DG S P 30) {n T t c : Nat} {w : Nat → Int32} (hD : DR I P 30 w T c) (hV : Vd w n T t c) (hW : WR I 27 w n) {K : Nat} {tl : Nat → Int32} (hK : (I 553 8).toInt = (K : Int)) (hK12 : K ≤ 12) (htl : ∀ k, k < K → I 583 k = tl k) (h : ∀ J, FrG I J → R (some (.int (bitsF (fun v => fitL tl K 0 (va_up w (44 + 10 * t) (iN v))) 1 5))) S J P) : pmX E (d + 5) 0 0 yX2_fittingKinds [rr E 553, rr E 27, rr E 30] S I P R := by
  refine pm_of (by decide) cd_X2_fittingKinds (by decide) (by decide) (Nat.le_of_ble_eq_true rfl) ?_
  intro C G hq
  obtain ⟨f1, ⟨f2, f3, f4, f5, f6, f7, f8, f9⟩, f10, f11, f12, f13, f14, f15, f16, f17, f18⟩ := id hFG
  obtain ⟨v1, v2, v3, v4, v5, v6, v7, v8⟩ := id hV
  obtain ⟨d1, d2, d3, d4, d5, d6⟩ := id hD
  obtain ⟨tt, ht1, ht2, ht3, ht4⟩ := hG.row (show t < 5 by omega)
  have hnow : (I 30 4).toInt = (t : Int) := by rw [d2]; exact v3.1
  have hTI : (I 30 3).toInt = (T : Int) := by rw [d1]; exact v2.1
  have hsz : (I 27 2).toInt = (n : Int) := by rw [hW.1]; exact v1.1
  have loop : ∀ (r k : Nat) (u : Int32) (J : pmI), u.toInt = ((1 + k : Nat) : Int) → k + r = 5 → FrG I J → True → pmZ E C 5 [some (rr E 553), some (rr E 27), some (rr E 30), some (.int (bitsF (fun v => fitL tl K 0 (va_up w (44 + 10 * t) (iN v))) 1 k)), some (.int u)] [] S J P 0 0 := by
    intro r
    induction r with
    | zero =>
      intro k u J hu hr hJ hI
      obtain rfl : k = 5 := by omega
      refine z_iload G dX2_fittingKinds_5 rfl ?_
      refine z_iconst G (v := 5) dX2_fittingKinds_7 (by decide) ?_
      refine z_icmp_gt G 42 dX2_fittingKinds_8 (by decide) (fun _ => ?_) (fun c => absurd c (fun z => z (by simp (disch := omega) only [iN_lit, iN_add, iN_sub, iN_mul, iN_an, iN_le, iN_lt, iN_eq, iN_of hu] <;> omega)))
      refine z_iload_n G dX2_fittingKinds_42 rfl ?_
      exact z_iret G hq dX2_fittingKinds_43 (h J hJ)
    | succ r ih =>
      intro k u J hu hr hJ hI
      have hDJ : DR J P 30 w T c := hD.congr hG (by omega) (by omega) (fun _ _ _ => rfl) (fun q _ _ => hJ q (by omega) (by omega))
      refine z_iload G dX2_fittingKinds_5 rfl ?_
      refine z_iconst G (v := 5) dX2_fittingKinds_7 (by decide) ?_
      refine z_icmp_gt G 42 dX2_fittingKinds_8 (by decide) (fun c => absurd c (by simp (disch := omega) only [iN_lit, iN_add, iN_sub, iN_mul, iN_an, iN_le, iN_lt, iN_eq, iN_of hu]; omega)) (fun _ => ?_)
      refine z_aload_n G dX2_fittingKinds_11 rfl ?_
      refine z_aload_n G dX2_fittingKinds_12 rfl ?_
      refine z_V G lk_X2_126 dX2_fittingKinds_13 [_] rfl rfl rfl (Nat.le_of_ble_eq_true rfl) ⟨Nat.le_refl _, Nat.le_refl _⟩ f1 ?_
      refine k_X2_guessNow hFG hG hDJ hV (fun J2 hF2 hT2 => ?_)
      refine z_aload_n G dX2_fittingKinds_16 rfl ?_
      refine z_getR G fl_X2_35 rfl dX2_fittingKinds_17 (by assumption) (by assumption) ?_
      refine z_iload G dX2_fittingKinds_20 rfl ?_
      refine z_putI G fl_X2_130 ft_7_1 rfl rfl rfl dX2_fittingKinds_22 f15.1 ?_
      refine z_iload_n G dX2_fittingKinds_25 rfl ?_
      refine z_aload_n G dX2_fittingKinds_26 rfl ?_
      refine z_aload_n G dX2_fittingKinds_27 rfl ?_
      refine z_aload_n G dX2_fittingKinds_28 rfl ?_
      refine z_iload G dX2_fittingKinds_29 rfl ?_
      have hJ3 : FrG J2 (va_up J2 578 (va_up (J2 578) 1 u)) := fun q a b => va_ne' (by omega)
      have hW3 : WR (va_up J2 578 (va_up (J2 578) 1 u)) 27 w n := hW.congr (fun q _ _ => by rw [hJ3 q (by omega) (by omega), hF2 q (by omega) (by omega)]; exact hJ q (by omega) (by omega))
      obtain ⟨a1, a2, a3, a4, a5⟩ := id hT2
      have hV9 := hV.kindv (v := 1 + k) (by omega) (by omega)
      have hPR9 : PR (va_up J2 578 (va_up (J2 578) 1 u)) 578 27 n (va_up w (44 + 10 * t) (iN (1 + k))) (T < 5) := ⟨T, t, c, hV9, ⟨by rw [va_at' rfl, va_at' rfl, va_at' rfl]; exact iN_of hu, by rw [va_at' rfl, va_ne' (by omega), va_ne' (by omega)]; exact a2, by rw [va_at' rfl, va_ne' (by omega), va_ne' (by omega)]; exact a3, by rw [va_at' rfl, va_ne' (by omega), va_ne' (by omega)]; exact a4, fun j hj => by rw [va_ne' (by omega)] at hj; rw [va_ne' (by omega), va_ne' (by omega)]; exact a5 j hj⟩, hW3.congrW v5 v1.2.2 (va_ne' (by omega)) (fun q j _ _ => va_ne' (by omega)), fun _ => Iff.rfl⟩
      refine z_V G lk_X2_133 dX2_fittingKinds_31 [_, _, _] rfl rfl rfl (Nat.le_of_ble_eq_true rfl) ⟨Nat.le_refl _, Nat.le_refl _⟩ f1 ?_
      refine k_X2_bitIfFits (n := n) (w := va_up w (44 + 10 * t) (iN (1 + k))) (T := T) (K := K) (tl := tl) hFG hWG (by omega) hG.1.1 (by rw [hJ3 30 (by omega) (by omega), hF2 30 (by omega) (by omega), hJ 30 (by omega) (by omega)]; exact hTI) (by rw [hJ3 553 (by omega) (by omega), hF2 553 (by omega) (by omega), hJ 553 (by omega) (by omega)]; exact hK) hK12 (fun j hj => by rw [hJ3 583 (by omega) (by omega), hF2 583 (by omega) (by omega), hJ 583 (by omega) (by omega)]; exact htl j hj) (by omega) hPR9 ?_ ?_
      · intro hfit J4 hF4
        refine z_ior G dX2_fittingKinds_34 ?_
        refine z_istore_n G dX2_fittingKinds_35 (Nat.le_of_ble_eq_true rfl) rfl ?_
        refine z_iinc G (v := 1) dX2_fittingKinds_36 (by decide) rfl rfl ?_
        refine z_goto G 5 dX2_fittingKinds_39 (by decide) ?_
        refine z_eq rfl ?_ rfl rfl rfl (ih (k + 1) (u + 1) J4 (by simp (disch := omega) only [iN_lit, iN_add, iN_sub, iN_mul, iN_an, iN_of hu]; exact iN_ti2 (by omega) (by omega)) (by omega) (fun q a b => by rw [hF4 q a b, hJ3 q a b, hF2 q a b]; exact hJ q a b) trivial)
        show _ = [some (rr E 553), some (rr E 27), some (rr E 30), some (.int (bitsF (fun v => fitL tl K 0 (va_up w (44 + 10 * t) (iN v))) 1 k ||| @ite Int32 (fitL tl K 0 (va_up w (44 + 10 * t) (iN (1 + k)))) (Classical.propDecidable _) (1 <<< (iN (1 + k) &&& 31)) 0)), some (.int (u + 1))]
        rw [if_pos hfit, ← iN_of hu]
        all_goals rfl
      · intro hfit J4 hF4
        refine z_ior G dX2_fittingKinds_34 ?_
        refine z_istore_n G dX2_fittingKinds_35 (Nat.le_of_ble_eq_true rfl) rfl ?_
        refine z_iinc G (v := 1) dX2_fittingKinds_36 (by decide) rfl rfl ?_
        refine z_goto G 5 dX2_fittingKinds_39 (by decide) ?_
        refine z_eq rfl ?_ rfl rfl rfl (ih (k + 1) (u + 1) J4 (by simp (disch := omega) only [iN_lit, iN_add, iN_sub, iN_mul, iN_an, iN_of hu]; exact iN_ti2 (by omega) (by omega)) (by omega) (fun q a b => by rw [hF4 q a b, hJ3 q a b, hF2 q a b]; exact hJ q a b) trivial)
        show _ = [some (rr E 553), some (rr E 27), some (rr E 30), some (.int (bitsF (fun v => fitL tl K 0 (va_up w (44 + 10 * t) (iN v))) 1 k ||| @ite Int32 (fitL tl K 0 (va_up w (44 + 10 * t) (iN (1 + k)))) (Classical.propDecidable _) (1 <<< (iN (1 + k) &&& 31)) 0)), some (.int (u + 1))]
        rw [if_neg hfit]
        all_goals rfl
  refine z_iconst G (v := 0) dX2_fittingKinds_0 (by decide) ?_
  refine z_istore_n G dX2_fittingKinds_1 (Nat.le_of_ble_eq_true rfl) rfl ?_
  refine z_iconst G (v := 1) dX2_fittingKinds_2 (by decide) ?_
  refine z_istore G dX2_fittingKinds_3 (Nat.le_of_ble_eq_true rfl) rfl ?_
  exact loop 5 0 1 I rfl (by omega) (fun _ _ _ => rfl) trivial
set_option maxHeartbeats 1000000 in
set_option maxRecDepth 20000 in
theorem k_X2_fittingHomes {E : pmE} {d : Nat} {S : pmS} {I : pmI} {P : pmP} {R : Option Value → pmS → pmI → pmP → Prop} (hFG : FG S P) (hWG : WebG S P 27) (hG : DG S P 30) {n T t c : Nat} {w : Nat → Int32} (hD : DR I P 30 w T c) (hV : Vd w n T t c) (hW : WR I 27 w n) {K : Nat} {tl : Nat → Int32} (hK : (I 553 8).toInt = (K : Int)) (hK12 : K ≤ 12) (htl : ∀ k, k < K → I 583 k = tl k) (h : ∀ J, FrG I J → R (some (.int (bitsF (fun v => fitL tl K 0 (va_up w (45 + 10 * t) (iN v))) 0 n))) S J P) : pmX E (d + 5) 0 0 yX2_fittingHomes [rr E 553, rr E 27, rr E 30] S I P R := by
  refine pm_of (by decide) cd_X2_fittingHomes (by decide) (by decide) (Nat.le_of_ble_eq_true rfl) ?_
  intro C G hq
  obtain ⟨f1, ⟨f2, f3, f4, f5, f6, f7, f8, f9⟩, f10, f11, f12, f13, f14, f15, f16, f17, f18⟩ := id hFG
  obtain ⟨v1, v2, v3, v4, v5, v6, v7, v8⟩ := id hV
  obtain ⟨d1, d2, d3, d4, d5, d6⟩ := id hD
  obtain ⟨tt, ht1, ht2, ht3, ht4⟩ := hG.row (show t < 5 by omega)
  have hnow : (I 30 4).toInt = (t : Int) := by rw [d2]; exact v3.1
  have hTI : (I 30 3).toInt = (T : Int) := by rw [d1]; exact v2.1
  have hsz : (I 27 2).toInt = (n : Int) := by rw [hW.1]; exact v1.1
  have loop : ∀ (r k : Nat) (u : Int32) (J : pmI), u.toInt = ((0 + k : Nat) : Int) → k + r = n → FrG I J → True → pmZ E C 5 [some (rr E 553), some (rr E 27), some (rr E 30), some (.int (bitsF (fun v => fitL tl K 0 (va_up w (45 + 10 * t) (iN v))) 0 k)), some (.int u)] [] S J P 0 0 := by
    intro r
    induction r with
    | zero =>
      intro k u J hu hr hJ hI
      obtain rfl : k = n := by omega
      refine z_iload G dX2_fittingHomes_5 rfl ?_
      refine z_aload_n G dX2_fittingHomes_7 rfl ?_
      refine z_getI G fl_X2_92 rfl dX2_fittingHomes_8 hWG.1 ?_
      rw [hJ 27 (by omega) (by omega)]
      refine z_icmp_ge G 45 dX2_fittingHomes_11 (by decide) (fun _ => ?_) (fun c => absurd c (fun z => z (by simp (disch := omega) only [iN_lit, iN_add, iN_sub, iN_mul, iN_an, iN_le, iN_lt, iN_eq, iN_of hu, iN_of hsz] <;> omega)))
      refine z_iload_n G dX2_fittingHomes_45 rfl ?_
      exact z_iret G hq dX2_fittingHomes_46 (h J hJ)
    | succ r ih =>
      intro k u J hu hr hJ hI
      have hDJ : DR J P 30 w T c := hD.congr hG (by omega) (by omega) (fun _ _ _ => rfl) (fun q _ _ => hJ q (by omega) (by omega))
      refine z_iload G dX2_fittingHomes_5 rfl ?_
      refine z_aload_n G dX2_fittingHomes_7 rfl ?_
      refine z_getI G fl_X2_92 rfl dX2_fittingHomes_8 hWG.1 ?_
      rw [hJ 27 (by omega) (by omega)]
      refine z_icmp_ge G 45 dX2_fittingHomes_11 (by decide) (fun c => absurd c (by simp (disch := omega) only [iN_lit, iN_add, iN_sub, iN_mul, iN_an, iN_le, iN_lt, iN_eq, iN_of hu, iN_of hsz]; omega)) (fun _ => ?_)
      refine z_aload_n G dX2_fittingHomes_14 rfl ?_
      refine z_aload_n G dX2_fittingHomes_15 rfl ?_
      refine z_V G lk_X2_126 dX2_fittingHomes_16 [_] rfl rfl rfl (Nat.le_of_ble_eq_true rfl) ⟨Nat.le_refl _, Nat.le_refl _⟩ f1 ?_
      refine k_X2_guessNow hFG hG hDJ hV (fun J2 hF2 hT2 => ?_)
      refine z_aload_n G dX2_fittingHomes_19 rfl ?_
      refine z_getR G fl_X2_35 rfl dX2_fittingHomes_20 (by assumption) (by assumption) ?_
      refine z_iload G dX2_fittingHomes_23 rfl ?_
      refine z_putI G fl_X2_147 ft_7_2 rfl rfl rfl dX2_fittingHomes_25 f15.1 ?_
      refine z_iload_n G dX2_fittingHomes_28 rfl ?_
      refine z_aload_n G dX2_fittingHomes_29 rfl ?_
      refine z_aload_n G dX2_fittingHomes_30 rfl ?_
      refine z_aload_n G dX2_fittingHomes_31 rfl ?_
      refine z_iload G dX2_fittingHomes_32 rfl ?_
      have hJ3 : FrG J2 (va_up J2 578 (va_up (J2 578) 2 u)) := fun q a b => va_ne' (by omega)
      have hW3 : WR (va_up J2 578 (va_up (J2 578) 2 u)) 27 w n := hW.congr (fun q _ _ => by rw [hJ3 q (by omega) (by omega), hF2 q (by omega) (by omega)]; exact hJ q (by omega) (by omega))
      obtain ⟨a1, a2, a3, a4, a5⟩ := id hT2
      have hV9 := hV.homev (v := 0 + k) (by omega)
      have hPR9 : PR (va_up J2 578 (va_up (J2 578) 2 u)) 578 27 n (va_up w (45 + 10 * t) (iN (0 + k))) (T < 5) := ⟨T, t, c, hV9, ⟨by rw [va_at' rfl, va_ne' (by omega), va_ne' (by omega)]; exact a1, by rw [va_at' rfl, va_at' rfl, va_at' (by omega)]; exact iN_of hu, by rw [va_at' rfl, va_ne' (by omega), va_ne' (by omega)]; exact a3, by rw [va_at' rfl, va_ne' (by omega), va_ne' (by omega)]; exact a4, fun j hj => by rw [va_ne' (by omega)] at hj; rw [va_ne' (by omega), va_ne' (by omega)]; exact a5 j hj⟩, hW3.congrW v5 v1.2.2 (va_ne' (by omega)) (fun q j _ _ => va_ne' (by omega)), fun _ => Iff.rfl⟩
      refine z_V G lk_X2_133 dX2_fittingHomes_34 [_, _, _] rfl rfl rfl (Nat.le_of_ble_eq_true rfl) ⟨Nat.le_refl _, Nat.le_refl _⟩ f1 ?_
      refine k_X2_bitIfFits (n := n) (w := va_up w (45 + 10 * t) (iN (0 + k))) (T := T) (K := K) (tl := tl) hFG hWG (by omega) hG.1.1 (by rw [hJ3 30 (by omega) (by omega), hF2 30 (by omega) (by omega), hJ 30 (by omega) (by omega)]; exact hTI) (by rw [hJ3 553 (by omega) (by omega), hF2 553 (by omega) (by omega), hJ 553 (by omega) (by omega)]; exact hK) hK12 (fun j hj => by rw [hJ3 583 (by omega) (by omega), hF2 583 (by omega) (by omega), hJ 583 (by omega) (by omega)]; exact htl j hj) (by omega) hPR9 ?_ ?_
      · intro hfit J4 hF4
        refine z_ior G dX2_fittingHomes_37 ?_
        refine z_istore_n G dX2_fittingHomes_38 (Nat.le_of_ble_eq_true rfl) rfl ?_
        refine z_iinc G (v := 1) dX2_fittingHomes_39 (by decide) rfl rfl ?_
        refine z_goto G 5 dX2_fittingHomes_42 (by decide) ?_
        refine z_eq rfl ?_ rfl rfl rfl (ih (k + 1) (u + 1) J4 (by simp (disch := omega) only [iN_lit, iN_add, iN_sub, iN_mul, iN_an, iN_of hu]; exact iN_ti2 (by omega) (by omega)) (by omega) (fun q a b => by rw [hF4 q a b, hJ3 q a b, hF2 q a b]; exact hJ q a b) trivial)
        show _ = [some (rr E 553), some (rr E 27), some (rr E 30), some (.int (bitsF (fun v => fitL tl K 0 (va_up w (45 + 10 * t) (iN v))) 0 k ||| @ite Int32 (fitL tl K 0 (va_up w (45 + 10 * t) (iN (0 + k)))) (Classical.propDecidable _) (1 <<< (iN (0 + k) &&& 31)) 0)), some (.int (u + 1))]
        rw [if_pos hfit, ← iN_of hu]
        all_goals rfl
      · intro hfit J4 hF4
        refine z_ior G dX2_fittingHomes_37 ?_
        refine z_istore_n G dX2_fittingHomes_38 (Nat.le_of_ble_eq_true rfl) rfl ?_
        refine z_iinc G (v := 1) dX2_fittingHomes_39 (by decide) rfl rfl ?_
        refine z_goto G 5 dX2_fittingHomes_42 (by decide) ?_
        refine z_eq rfl ?_ rfl rfl rfl (ih (k + 1) (u + 1) J4 (by simp (disch := omega) only [iN_lit, iN_add, iN_sub, iN_mul, iN_an, iN_of hu]; exact iN_ti2 (by omega) (by omega)) (by omega) (fun q a b => by rw [hF4 q a b, hJ3 q a b, hF2 q a b]; exact hJ q a b) trivial)
        show _ = [some (rr E 553), some (rr E 27), some (rr E 30), some (.int (bitsF (fun v => fitL tl K 0 (va_up w (45 + 10 * t) (iN v))) 0 k ||| @ite Int32 (fitL tl K 0 (va_up w (45 + 10 * t) (iN (0 + k)))) (Classical.propDecidable _) (1 <<< (iN (0 + k) &&& 31)) 0)), some (.int (u + 1))]
        rw [if_neg hfit]
        all_goals rfl
  refine z_iconst G (v := 0) dX2_fittingHomes_0 (by decide) ?_
  refine z_istore_n G dX2_fittingHomes_1 (Nat.le_of_ble_eq_true rfl) rfl ?_
  refine z_iconst G (v := 0) dX2_fittingHomes_2 (by decide) ?_
  refine z_istore G dX2_fittingHomes_3 (Nat.le_of_ble_eq_true rfl) rfl ?_
  exact loop n 0 0 I rfl (by omega) (fun _ _ _ => rfl) trivial
set_option maxHeartbeats 1000000 in
set_option maxRecDepth 20000 in
theorem k_X2_fittingStarts {E : pmE} {d : Nat} {S : pmS} {I : pmI} {P : pmP} {R : Option Value → pmS → pmI → pmP → Prop} (hFG : FG S P) (hWG : WebG S P 27) (hG : DG S P 30) {n T t c : Nat} {w : Nat → Int32} (hD : DR I P 30 w T c) (hV : Vd w n T t c) (hW : WR I 27 w n) {K : Nat} {tl : Nat → Int32} (hK : (I 553 8).toInt = (K : Int)) (hK12 : K ≤ 12) (htl : ∀ k, k < K → I 583 k = tl k) {s p : Nat} (hN : Nw w t s p) (h : ∀ J, FrG I J → R (some (.int (bitsF (fun v => fitL tl K 0 (va_up w (48 + 10 * t + s) (iN v))) 0 n))) S J P) : pmX E (d + 5) 0 0 yX2_fittingStarts [rr E 553, rr E 27, rr E 30] S I P R := by
  refine pm_of (by decide) cd_X2_fittingStarts (by decide) (by decide) (Nat.le_of_ble_eq_true rfl) ?_
  intro C G hq
  obtain ⟨f1, ⟨f2, f3, f4, f5, f6, f7, f8, f9⟩, f10, f11, f12, f13, f14, f15, f16, f17, f18⟩ := id hFG
  obtain ⟨v1, v2, v3, v4, v5, v6, v7, v8⟩ := id hV
  obtain ⟨d1, d2, d3, d4, d5, d6⟩ := id hD
  obtain ⟨tt, ht1, ht2, ht3, ht4⟩ := hG.row (show t < 5 by omega)
  have hnow : (I 30 4).toInt = (t : Int) := by rw [d2]; exact v3.1
  have hTI : (I 30 3).toInt = (T : Int) := by rw [d1]; exact v2.1
  have hsz : (I 27 2).toInt = (n : Int) := by rw [hW.1]; exact v1.1
  have loop : ∀ (r k : Nat) (u : Int32) (J : pmI), u.toInt = ((0 + k : Nat) : Int) → k + r = n → FrG I J → True → pmZ E C 5 [some (rr E 553), some (rr E 27), some (rr E 30), some (.int (bitsF (fun v => fitL tl K 0 (va_up w (48 + 10 * t + s) (iN v))) 0 k)), some (.int u)] [] S J P 0 0 := by
    intro r
    induction r with
    | zero =>
      intro k u J hu hr hJ hI
      obtain rfl : k = n := by omega
      refine z_iload G dX2_fittingStarts_5 rfl ?_
      refine z_aload_n G dX2_fittingStarts_7 rfl ?_
      refine z_getI G fl_X2_92 rfl dX2_fittingStarts_8 hWG.1 ?_
      rw [hJ 27 (by omega) (by omega)]
      refine z_icmp_ge G 45 dX2_fittingStarts_11 (by decide) (fun _ => ?_) (fun c => absurd c (fun z => z (by simp (disch := omega) only [iN_lit, iN_add, iN_sub, iN_mul, iN_an, iN_le, iN_lt, iN_eq, iN_of hu, iN_of hsz] <;> omega)))
      refine z_iload_n G dX2_fittingStarts_45 rfl ?_
      exact z_iret G hq dX2_fittingStarts_46 (h J hJ)
    | succ r ih =>
      intro k u J hu hr hJ hI
      have hDJ : DR J P 30 w T c := hD.congr hG (by omega) (by omega) (fun _ _ _ => rfl) (fun q _ _ => hJ q (by omega) (by omega))
      refine z_iload G dX2_fittingStarts_5 rfl ?_
      refine z_aload_n G dX2_fittingStarts_7 rfl ?_
      refine z_getI G fl_X2_92 rfl dX2_fittingStarts_8 hWG.1 ?_
      rw [hJ 27 (by omega) (by omega)]
      refine z_icmp_ge G 45 dX2_fittingStarts_11 (by decide) (fun c => absurd c (by simp (disch := omega) only [iN_lit, iN_add, iN_sub, iN_mul, iN_an, iN_le, iN_lt, iN_eq, iN_of hu, iN_of hsz]; omega)) (fun _ => ?_)
      refine z_aload_n G dX2_fittingStarts_14 rfl ?_
      refine z_aload_n G dX2_fittingStarts_15 rfl ?_
      refine z_V G lk_X2_126 dX2_fittingStarts_16 [_] rfl rfl rfl (Nat.le_of_ble_eq_true rfl) ⟨Nat.le_refl _, Nat.le_refl _⟩ f1 ?_
      refine k_X2_guessNow hFG hG hDJ hV (fun J2 hF2 hT2 => ?_)
      refine z_aload_n G dX2_fittingStarts_19 rfl ?_
      refine z_getR G fl_X2_35 rfl dX2_fittingStarts_20 (by assumption) (by assumption) ?_
      refine z_iload G dX2_fittingStarts_23 rfl ?_
      refine z_V G lk_X2_137 dX2_fittingStarts_25 [_] rfl rfl rfl (Nat.le_of_ble_eq_true rfl) ⟨Nat.le_refl _, Nat.le_refl _⟩ f15.1 ?_
      refine k_X7_showInstead f15 (s := s) (by rw [hT2.2.2.2.1, show 44 + 10 * t + 3 = 47 + 10 * t by omega]; exact hN.2.2.1) hN.2.2.2.1 ?_
      refine z_iload_n G dX2_fittingStarts_28 rfl ?_
      refine z_aload_n G dX2_fittingStarts_29 rfl ?_
      refine z_aload_n G dX2_fittingStarts_30 rfl ?_
      refine z_aload_n G dX2_fittingStarts_31 rfl ?_
      refine z_iload G dX2_fittingStarts_32 rfl ?_
      have hJ3 : FrG J2 (va_up J2 579 (va_up (J2 579) s u)) := fun q a b => va_ne' (by omega)
      have hW3 : WR (va_up J2 579 (va_up (J2 579) s u)) 27 w n := hW.congr (fun q _ _ => by rw [hJ3 q (by omega) (by omega), hF2 q (by omega) (by omega)]; exact hJ q (by omega) (by omega))
      obtain ⟨a1, a2, a3, a4, a5⟩ := id hT2
      have hV9 := hV.startv (v := 0 + k) hN.2.2.2.1 (by omega)
      have hPR9 : PR (va_up J2 579 (va_up (J2 579) s u)) 578 27 n (va_up w (48 + 10 * t + s) (iN (0 + k))) (T < 5) := ⟨T, t, c, hV9, ⟨by rw [va_ne' (by omega), va_ne' (by omega)]; exact a1, by rw [va_ne' (by omega), va_ne' (by omega)]; exact a2, by rw [va_ne' (by omega), va_ne' (by omega)]; exact a3, by rw [va_ne' (by omega), va_ne' (by omega)]; exact a4, fun j hj => by rw [va_ne' (by omega)] at hj; rw [show 578 + 1 = 579 from rfl, va_at' rfl]; by_cases e : j = s; (subst e; rw [va_at' rfl, va_at' (by omega)]; exact iN_of hu); (rw [va_ne' e, va_ne' (by omega)]; exact a5 j hj)⟩, hW3.congrW v5 v1.2.2 (va_ne' (by omega)) (fun q j _ _ => va_ne' (by omega)), fun _ => Iff.rfl⟩
      refine z_V G lk_X2_133 dX2_fittingStarts_34 [_, _, _] rfl rfl rfl (Nat.le_of_ble_eq_true rfl) ⟨Nat.le_refl _, Nat.le_refl _⟩ f1 ?_
      refine k_X2_bitIfFits (n := n) (w := va_up w (48 + 10 * t + s) (iN (0 + k))) (T := T) (K := K) (tl := tl) hFG hWG (by omega) hG.1.1 (by rw [hJ3 30 (by omega) (by omega), hF2 30 (by omega) (by omega), hJ 30 (by omega) (by omega)]; exact hTI) (by rw [hJ3 553 (by omega) (by omega), hF2 553 (by omega) (by omega), hJ 553 (by omega) (by omega)]; exact hK) hK12 (fun j hj => by rw [hJ3 583 (by omega) (by omega), hF2 583 (by omega) (by omega), hJ 583 (by omega) (by omega)]; exact htl j hj) (by omega) hPR9 ?_ ?_
      · intro hfit J4 hF4
        refine z_ior G dX2_fittingStarts_37 ?_
        refine z_istore_n G dX2_fittingStarts_38 (Nat.le_of_ble_eq_true rfl) rfl ?_
        refine z_iinc G (v := 1) dX2_fittingStarts_39 (by decide) rfl rfl ?_
        refine z_goto G 5 dX2_fittingStarts_42 (by decide) ?_
        refine z_eq rfl ?_ rfl rfl rfl (ih (k + 1) (u + 1) J4 (by simp (disch := omega) only [iN_lit, iN_add, iN_sub, iN_mul, iN_an, iN_of hu]; exact iN_ti2 (by omega) (by omega)) (by omega) (fun q a b => by rw [hF4 q a b, hJ3 q a b, hF2 q a b]; exact hJ q a b) trivial)
        show _ = [some (rr E 553), some (rr E 27), some (rr E 30), some (.int (bitsF (fun v => fitL tl K 0 (va_up w (48 + 10 * t + s) (iN v))) 0 k ||| @ite Int32 (fitL tl K 0 (va_up w (48 + 10 * t + s) (iN (0 + k)))) (Classical.propDecidable _) (1 <<< (iN (0 + k) &&& 31)) 0)), some (.int (u + 1))]
        rw [if_pos hfit, ← iN_of hu]
        all_goals rfl
      · intro hfit J4 hF4
        refine z_ior G dX2_fittingStarts_37 ?_
        refine z_istore_n G dX2_fittingStarts_38 (Nat.le_of_ble_eq_true rfl) rfl ?_
        refine z_iinc G (v := 1) dX2_fittingStarts_39 (by decide) rfl rfl ?_
        refine z_goto G 5 dX2_fittingStarts_42 (by decide) ?_
        refine z_eq rfl ?_ rfl rfl rfl (ih (k + 1) (u + 1) J4 (by simp (disch := omega) only [iN_lit, iN_add, iN_sub, iN_mul, iN_an, iN_of hu]; exact iN_ti2 (by omega) (by omega)) (by omega) (fun q a b => by rw [hF4 q a b, hJ3 q a b, hF2 q a b]; exact hJ q a b) trivial)
        show _ = [some (rr E 553), some (rr E 27), some (rr E 30), some (.int (bitsF (fun v => fitL tl K 0 (va_up w (48 + 10 * t + s) (iN v))) 0 k ||| @ite Int32 (fitL tl K 0 (va_up w (48 + 10 * t + s) (iN (0 + k)))) (Classical.propDecidable _) (1 <<< (iN (0 + k) &&& 31)) 0)), some (.int (u + 1))]
        rw [if_neg hfit]
        all_goals rfl
  refine z_iconst G (v := 0) dX2_fittingStarts_0 (by decide) ?_
  refine z_istore_n G dX2_fittingStarts_1 (Nat.le_of_ble_eq_true rfl) rfl ?_
  refine z_iconst G (v := 0) dX2_fittingStarts_2 (by decide) ?_
  refine z_istore G dX2_fittingStarts_3 (Nat.le_of_ble_eq_true rfl) rfl ?_
  exact loop n 0 0 I rfl (by omega) (fun _ _ _ => rfl) trivial
set_option maxHeartbeats 1000000 in
set_option maxRecDepth 20000 in
theorem k_X8_turnFirstLink {E : pmE} {d : Nat} {S : pmS} {I : pmI} {P : pmP} {R : Option Value → pmS → pmI → pmP → Prop} {g n q : Nat} {page x : Int32} (hG : WebG S P g) (hn : (I g 2).toInt = (n : Int)) (hn8 : n ≤ 8) (hq1 : page.toInt = (q : Int)) (hqn : q < n) (h : R none S (va_up I (g + 2) (va_up (I (g + 2)) (3 * q) x)) P) : pmX E (d + 1) 0 0 yX8_turnFirstLink [rr E g, .int page, .int x] S I P R := by
  refine pm_of (by decide) cd_X8_turnFirstLink (by decide) (by decide) (Nat.le_of_ble_eq_true rfl) ?_
  intro C G hq
  refine z_aload_n G dX8_turnFirstLink_0 rfl ?_
  refine z_iload_n G dX8_turnFirstLink_1 rfl ?_
  refine z_V G lk_X8_28 dX8_turnFirstLink_2 [_] rfl rfl rfl (Nat.le_of_ble_eq_true rfl) ⟨Nat.le_refl _, Nat.le_refl _⟩ hG.1 ?_
  refine k_X8_hasPage hG.1 hn (fun _ _ _ => ?_) (fun z => absurd ⟨q, hq1, hqn⟩ z)
  refine z_if_eq G 17 dX8_turnFirstLink_5 (by decide) (fun c => absurd c (by decide)) (fun _ => ?_)
  refine z_aload_n G dX8_turnFirstLink_8 rfl ?_
  refine z_getR G fl_X8_15 rfl dX8_turnFirstLink_9 hG.1 hG.2.2.1 ?_
  refine z_iload_n G dX8_turnFirstLink_12 rfl ?_
  refine z_iconst G (v := 3) dX8_turnFirstLink_13 (by decide) ?_
  refine z_imul G dX8_turnFirstLink_14 ?_
  refine z_iload_n G dX8_turnFirstLink_15 rfl ?_
  refine z_iast G (3 * q) dX8_turnFirstLink_16 hG.2.2.2.2 (by simp (disch := omega) only [iN_lit, iN_add, iN_sub, iN_mul, iN_an, iN_of hq1]; exact iN_ti2 (by omega) (by omega)) (by omega) ?_
  exact z_vret G hq dX8_turnFirstLink_17 (h)
set_option maxHeartbeats 1000000 in
set_option maxRecDepth 20000 in
theorem k_X2_fittingLeads {E : pmE} {d : Nat} {S : pmS} {I : pmI} {P : pmP} {R : Option Value → pmS → pmI → pmP → Prop} (hFG : FG S P) (hWG : WebG S P 27) (hG : DG S P 30) {n T t c : Nat} {w : Nat → Int32} (hD : DR I P 30 w T c) (hV : Vd w n T t c) (hW : WR I 27 w n) {K : Nat} {tl : Nat → Int32} (hK : (I 553 8).toInt = (K : Int)) (hK12 : K ≤ 12) (htl : ∀ k, k < K → I 583 k = tl k) {q : Nat} {page : Int32} (hq1 : page.toInt = (q : Int)) (hqn : q < n) (h : ∀ J, FrG2 I J → R (some (.int (bitsF (fun v => fitL tl K 0 (va_up w (5 + 5 * q) (iN v))) 0 n))) S J P) : pmX E (d + 5) 0 0 yX2_fittingLeads [rr E 553, rr E 27, rr E 30, .int page] S I P R := by
  refine pm_of (by decide) cd_X2_fittingLeads (by decide) (by decide) (Nat.le_of_ble_eq_true rfl) ?_
  intro C G hq
  obtain ⟨f1, ⟨f2, f3, f4, f5, f6, f7, f8, f9⟩, f10, f11, f12, f13, f14, f15, f16, f17, f18⟩ := id hFG
  obtain ⟨v1, v2, v3, v4, v5, v6, v7, v8⟩ := id hV
  obtain ⟨d1, d2, d3, d4, d5, d6⟩ := id hD
  obtain ⟨tt, ht1, ht2, ht3, ht4⟩ := hG.row (show t < 5 by omega)
  have hnow : (I 30 4).toInt = (t : Int) := by rw [d2]; exact v3.1
  have hTI : (I 30 3).toInt = (T : Int) := by rw [d1]; exact v2.1
  have hsz : (I 27 2).toInt = (n : Int) := by rw [hW.1]; exact v1.1
  have loop : ∀ (r k : Nat) (u : Int32) (J : pmI), u.toInt = ((0 + k : Nat) : Int) → k + r = n → FrG2 I J → (∃ x : Int32, WR J 580 (va_up w (5 + 5 * q) x) n) → pmZ E C 14 [some (rr E 553), some (rr E 27), some (rr E 30), some (.int page), some (.int (bitsF (fun v => fitL tl K 0 (va_up w (5 + 5 * q) (iN v))) 0 k)), some (.int u)] [] S J P 0 0 := by
    intro r
    induction r with
    | zero =>
      intro k u J hu hr hJ hI
      obtain rfl : k = n := by omega
      refine z_iload G dX2_fittingLeads_14 rfl ?_
      refine z_aload_n G dX2_fittingLeads_16 rfl ?_
      refine z_getI G fl_X2_92 rfl dX2_fittingLeads_17 hWG.1 ?_
      rw [hJ 27 (by omega)]
      refine z_icmp_ge G 60 dX2_fittingLeads_20 (by decide) (fun _ => ?_) (fun c => absurd c (fun z => z (by simp (disch := omega) only [iN_lit, iN_add, iN_sub, iN_mul, iN_an, iN_le, iN_lt, iN_eq, iN_of hu, iN_of hsz] <;> omega)))
      refine z_iload G dX2_fittingLeads_60 rfl ?_
      exact z_iret G hq dX2_fittingLeads_62 (h J hJ)
    | succ r ih =>
      intro k u J hu hr hJ hI
      have hDJ : DR J P 30 w T c := hD.congr hG (by omega) (by omega) (fun _ _ _ => rfl) (fun q _ _ => hJ q (by omega))
      refine z_iload G dX2_fittingLeads_14 rfl ?_
      refine z_aload_n G dX2_fittingLeads_16 rfl ?_
      refine z_getI G fl_X2_92 rfl dX2_fittingLeads_17 hWG.1 ?_
      rw [hJ 27 (by omega)]
      refine z_icmp_ge G 60 dX2_fittingLeads_20 (by decide) (fun c => absurd c (by simp (disch := omega) only [iN_lit, iN_add, iN_sub, iN_mul, iN_an, iN_le, iN_lt, iN_eq, iN_of hu, iN_of hsz]; omega)) (fun _ => ?_)
      refine z_aload_n G dX2_fittingLeads_23 rfl ?_
      refine z_aload_n G dX2_fittingLeads_24 rfl ?_
      refine z_V G lk_X2_126 dX2_fittingLeads_25 [_] rfl rfl rfl (Nat.le_of_ble_eq_true rfl) ⟨Nat.le_refl _, Nat.le_refl _⟩ f1 ?_
      refine k_X2_guessNow hFG hG hDJ hV (fun J2 hF2 hT2 => ?_)
      refine z_aload_n G dX2_fittingLeads_28 rfl ?_
      refine z_getR G fl_X2_42 rfl dX2_fittingLeads_29 (by assumption) (by assumption) ?_
      refine z_iload_n G dX2_fittingLeads_32 rfl ?_
      refine z_iload G dX2_fittingLeads_33 rfl ?_
      refine z_V G lk_X2_143 dX2_fittingLeads_35 [_, _] rfl rfl rfl (Nat.le_of_ble_eq_true rfl) ⟨Nat.le_refl _, Nat.le_refl _⟩ f16.1 ?_
      refine k_X8_turnFirstLink f16 (n := n) (by obtain ⟨x9, hx9⟩ := hI; rw [hF2 580 (by omega) (by omega), hx9.1, va_ne' (by omega)]; exact v1.1) v1.2.2 hq1 hqn ?_
      refine z_iload G dX2_fittingLeads_38 rfl ?_
      refine z_aload_n G dX2_fittingLeads_40 rfl ?_
      refine z_aload_n G dX2_fittingLeads_41 rfl ?_
      refine z_getR G fl_X2_42 rfl dX2_fittingLeads_42 (by assumption) (by assumption) ?_
      refine z_aload_n G dX2_fittingLeads_45 rfl ?_
      refine z_iload G dX2_fittingLeads_46 rfl ?_
      obtain ⟨x9, hx9⟩ := hI
      have hW3 : WR (va_up J2 582 (va_up (J2 582) (3 * q) u)) 580 (va_up w (5 + 5 * q) u) n := hx9.lead (by rw [va_ne' (by omega)]; exact hF2 _ (by omega) (by omega)) (by rw [va_ne' (by omega)]; exact hF2 _ (by omega) (by omega)) (by rw [va_at' rfl, hF2 582 (by omega) (by omega)]) v5 hqn v1.2.2
      rw [iN_of hu] at hW3 ⊢
      have hV9 := hV.leadv (v := 0 + k) hqn (by omega)
      have hPR9 : PR (va_up J2 582 (va_up (J2 582) (3 * q) (iN (0 + k)))) 578 580 n (va_up w (5 + 5 * q) (iN (0 + k))) (T < 5) := ⟨T, t, c, hV9, (hT2.congr (va_ne' (by omega)) (va_ne' (by omega))).congrW (fun i _ => va_ne' (by omega)) (v6 t v3.2).l6, hW3, fun _ => Iff.rfl⟩
      refine z_V G lk_X2_133 dX2_fittingLeads_48 [_, _, _] rfl rfl rfl (Nat.le_of_ble_eq_true rfl) ⟨Nat.le_refl _, Nat.le_refl _⟩ f1 ?_
      refine k_X2_bitIfFits (n := n) (w := va_up w (5 + 5 * q) (iN (0 + k))) (T := T) (K := K) (tl := tl) hFG f16 (by omega) hG.1.1 (by rw [va_ne' (by omega), hF2 30 (by omega) (by omega), hJ 30 (by omega)]; exact hTI) (by rw [va_ne' (by omega), hF2 553 (by omega) (by omega), hJ 553 (by omega)]; exact hK) hK12 (fun j hj => by rw [va_ne' (by omega), hF2 583 (by omega) (by omega), hJ 583 (by omega)]; exact htl j hj) (by omega) hPR9 ?_ ?_
      · intro hfit J4 hF4
        refine z_ior G dX2_fittingLeads_51 ?_
        refine z_istore G dX2_fittingLeads_52 (Nat.le_of_ble_eq_true rfl) rfl ?_
        refine z_iinc G (v := 1) dX2_fittingLeads_54 (by decide) rfl rfl ?_
        refine z_goto G 14 dX2_fittingLeads_57 (by decide) ?_
        refine z_eq rfl ?_ rfl rfl rfl (ih (k + 1) (u + 1) J4 (by simp (disch := omega) only [iN_lit, iN_add, iN_sub, iN_mul, iN_an, iN_of hu]; exact iN_ti2 (by omega) (by omega)) (by omega) (fun q a => by rw [hF4 q (by omega) (by omega), va_ne' (by omega), hF2 q (by omega) (by omega)]; exact hJ q a) ⟨_, hW3.congr (fun q a b => hF4 q (by omega) (by omega))⟩)
        show _ = [some (rr E 553), some (rr E 27), some (rr E 30), some (.int page), some (.int (bitsF (fun v => fitL tl K 0 (va_up w (5 + 5 * q) (iN v))) 0 k ||| @ite Int32 (fitL tl K 0 (va_up w (5 + 5 * q) (iN (0 + k)))) (Classical.propDecidable _) (1 <<< (iN (0 + k) &&& 31)) 0)), some (.int (u + 1))]
        rw [if_pos hfit, ← iN_of hu]
        all_goals rfl
      · intro hfit J4 hF4
        refine z_ior G dX2_fittingLeads_51 ?_
        refine z_istore G dX2_fittingLeads_52 (Nat.le_of_ble_eq_true rfl) rfl ?_
        refine z_iinc G (v := 1) dX2_fittingLeads_54 (by decide) rfl rfl ?_
        refine z_goto G 14 dX2_fittingLeads_57 (by decide) ?_
        refine z_eq rfl ?_ rfl rfl rfl (ih (k + 1) (u + 1) J4 (by simp (disch := omega) only [iN_lit, iN_add, iN_sub, iN_mul, iN_an, iN_of hu]; exact iN_ti2 (by omega) (by omega)) (by omega) (fun q a => by rw [hF4 q (by omega) (by omega), va_ne' (by omega), hF2 q (by omega) (by omega)]; exact hJ q a) ⟨_, hW3.congr (fun q a b => hF4 q (by omega) (by omega))⟩)
        show _ = [some (rr E 553), some (rr E 27), some (rr E 30), some (.int page), some (.int (bitsF (fun v => fitL tl K 0 (va_up w (5 + 5 * q) (iN v))) 0 k ||| @ite Int32 (fitL tl K 0 (va_up w (5 + 5 * q) (iN (0 + k)))) (Classical.propDecidable _) (1 <<< (iN (0 + k) &&& 31)) 0)), some (.int (u + 1))]
        rw [if_neg hfit, ← iN_of hu]
        all_goals rfl
  refine z_iconst G (v := 0) dX2_fittingLeads_0 (by decide) ?_
  refine z_istore G dX2_fittingLeads_1 (Nat.le_of_ble_eq_true rfl) rfl ?_
  refine z_aload_n G dX2_fittingLeads_3 rfl ?_
  refine z_getR G fl_X2_42 rfl dX2_fittingLeads_4 (by assumption) (by assumption) ?_
  refine z_aload_n G dX2_fittingLeads_7 rfl ?_
  refine z_V G lk_X2_140 dX2_fittingLeads_8 [_] rfl rfl rfl (Nat.le_of_ble_eq_true rfl) ⟨Nat.le_refl _, Nat.le_refl _⟩ f16.1 ?_
  refine k_X8_become f16 hWG (by omega) hW v5 v1.2.2 (fun J hF0 hW0 => ?_)
  refine z_iconst G (v := 0) dX2_fittingLeads_11 (by decide) ?_
  refine z_istore G dX2_fittingLeads_12 (Nat.le_of_ble_eq_true rfl) rfl ?_
  exact loop n 0 0 J rfl (by omega) (fun q a => hF0 q (by omega)) ⟨w (5 + 5 * q), by rw [va_up_id]; exact hW0⟩
set_option maxHeartbeats 1000000 in
set_option maxRecDepth 20000 in
theorem k_X2_hear {E : pmE} {d : Nat} {S : pmS} {I : pmI} {P : pmP} {R : Option Value → pmS → pmI → pmP → Prop} (hFG : FG S P) {g z K i0 : Nat} {i nn : Int32} (hRG : RowG S P g) (hg : 583 < g) (hz : (I g 3).toInt = (z : Int)) (hz40 : z ≤ 40) (hPL : PL i nn z) (hK : nn.toInt = (K : Int)) (hK12 : K ≤ 12) (hi0 : i.toInt = (i0 : Int)) (h : ∀ J, (∀ k, k ≠ 553 → k ≠ 583 → J k = I k) → (J 553 8).toInt = (K : Int) → (∀ k, k < K → J 583 k = I (g + 1) (i0 + k)) → R none S J P) : pmX E (d + 1) 0 0 yX2_hear [rr E 553, rr E g, .int i, .int nn] S I P R := by
  refine pm_of (by decide) cd_X2_hear (by decide) (by decide) (Nat.le_of_ble_eq_true rfl) ?_
  intro C G hq
  obtain ⟨f1, ⟨f2, f3, f4, f5, f6, f7, f8, f9⟩, f10, f11, f12, f13, f14, f15, f16, f17, f18⟩ := id hFG
  obtain ⟨rw1, rw2, rw3⟩ := id hRG
  have hPL2 : i0 + K ≤ z := by have := hPL.2.2; omega
  have loop : ∀ (r k : Nat) (u : Int32) (J : pmI), u.toInt = (k : Int) → k + r = K → (∀ k, k ≠ 553 → k ≠ 583 → J k = I k) → (J 553 8).toInt = (K : Int) → (∀ j, j < k → J 583 j = I (g + 1) (i0 + j)) → pmZ E C 26 [some (rr E 553), some (rr E g), some (.int i), some (.int nn), some (.int u)] [] S J P 0 0 := by
    intro r
    induction r with
    | zero =>
      intro k u J hu hr hJ hKJ hA
      obtain rfl : k = K := by omega
      refine z_iload G dX2_hear_26 rfl ?_
      refine z_aload_n G dX2_hear_28 rfl ?_
      refine z_getI G fl_X2_49 rfl dX2_hear_29 (by assumption) ?_
      refine z_icmp_ge G 57 dX2_hear_32 (by decide) (fun _ => ?_) (fun c => absurd c (fun z => z (by simp (disch := omega) only [iN_lit, iN_add, iN_sub, iN_mul, iN_an, iN_le, iN_lt, iN_eq, iN_of hu, iN_of hKJ] <;> omega)))
      exact z_vret G hq dX2_hear_57 (h J hJ hKJ hA)
    | succ r ih =>
      intro k u J hu hr hJ hKJ hA
      refine z_iload G dX2_hear_26 rfl ?_
      refine z_aload_n G dX2_hear_28 rfl ?_
      refine z_getI G fl_X2_49 rfl dX2_hear_29 (by assumption) ?_
      refine z_icmp_ge G 57 dX2_hear_32 (by decide) (fun c => absurd c (by simp (disch := omega) only [iN_lit, iN_add, iN_sub, iN_mul, iN_an, iN_le, iN_lt, iN_eq, iN_of hu, iN_of hKJ]; omega)) (fun _ => ?_)
      refine z_aload_n G dX2_hear_35 rfl ?_
      refine z_getR G fl_X2_46 rfl dX2_hear_36 (by assumption) (by assumption) ?_
      refine z_iload G dX2_hear_39 rfl ?_
      refine z_aload_n G dX2_hear_41 rfl ?_
      refine z_getR G fl_X2_123 rfl dX2_hear_42 rw1 rw2 ?_
      refine z_iload_n G dX2_hear_45 rfl ?_
      refine z_iload G dX2_hear_46 rfl ?_
      refine z_iadd G dX2_hear_48 ?_
      refine z_iald G (i0 + k) dX2_hear_49 rw3 (by simp (disch := omega) only [iN_lit, iN_add, iN_sub, iN_mul, iN_an, iN_of hi0, iN_of hu]; exact iN_ti2 (by omega) (by omega)) (by omega) ?_
      refine z_iast G (k) dX2_hear_50 f17 (hu) (by omega) ?_
      refine z_iinc G (v := 1) dX2_hear_51 (by decide) rfl rfl ?_
      refine z_goto G 26 dX2_hear_54 (by decide) ?_
      refine ih (k + 1) _ _ (by simp (disch := omega) only [iN_lit, iN_add, iN_sub, iN_mul, iN_an, iN_of hu]; exact iN_ti2 (by omega) (by omega)) (by omega) (fun q a b => (va_ne' b).trans (hJ q a b)) (by rw [va_ne' (by omega)]; exact hKJ) (fun j hj => ?_)
      rw [va_at' rfl]
      by_cases e : j = k
      · subst e; rw [va_at' rfl, hJ (g + 1) (by omega) (by omega)]
      · rw [va_ne' e]; exact hA j (by omega)
  refine z_aload_n G dX2_hear_0 rfl ?_
  refine z_aload_n G dX2_hear_1 rfl ?_
  refine z_iload_n G dX2_hear_2 rfl ?_
  refine z_iload_n G dX2_hear_3 rfl ?_
  refine z_V G lk_X2_112 dX2_hear_4 [_, _] rfl rfl rfl (Nat.le_of_ble_eq_true rfl) ⟨Nat.le_refl _, Nat.le_refl _⟩ rw1 ?_
  refine k_X6_hasPlaces rw1 hz hz40 (fun _ => ?_) (fun z => absurd hPL z)
  refine z_if_eq G 19 dX2_hear_7 (by decide) (fun c => absurd c (by decide)) (fun _ => ?_)
  refine z_iload_n G dX2_hear_10 rfl ?_
  refine z_bipush G (v := 12) dX2_hear_11 (by decide) ?_
  refine z_mmin G ml_X2_118 mn_s mm_i mn_c dX2_hear_13 rfl (Nat.le_of_ble_eq_true rfl) ⟨Nat.le_refl _, Nat.le_refl _⟩ ?_
  refine z_goto G 20 dX2_hear_16 (by decide) ?_
  refine z_top (y := nn) (by rw [iN_of hK, iN_lit]; simp (disch := omega) only [iN_lt, iN_le]; split <;> first | rfl | (congr 1; omega)) ?_
  refine z_putI G fl_X2_49 ft_2_8 rfl rfl rfl dX2_hear_20 (by assumption) ?_
  refine z_iconst G (v := 0) dX2_hear_23 (by decide) ?_
  refine z_istore G dX2_hear_24 (Nat.le_of_ble_eq_true rfl) rfl ?_
  exact loop K 0 0 _ rfl (by omega) (fun q a b => va_ne' a) (by rw [va_at' rfl, va_at' rfl]; exact hK) (fun j hj => absurd hj (by omega))
