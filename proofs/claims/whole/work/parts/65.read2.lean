theorem WR.link {I : pmI} {g n p j v : Nat} {w : Nat → Int32} (h : WR I g w n) (hc : ∀ q, q < n → (w (4 + 5 * q)).toInt ≤ 3) (hp : p < n) (hj : j < 3) (hcp : w (4 + 5 * p) = iN j) : WR (va_up (va_up I (g + 2) (va_up (I (g + 2)) (3 * p + j) (iN v))) (g + 1) (va_up (I (g + 1)) p (iN (j + 1)))) g (linkW w p j v) n ∧ linkW w p j v 0 = w 0 ∧ linkW w p j v (4 + 5 * p) = iN (j + 1) ∧ ∀ q, q < n → (linkW w p j v (4 + 5 * q)).toInt ≤ 3 := by
  obtain ⟨h1, h2⟩ := h
  have e0 : linkW w p j v (4 + 5 * p) = iN (j + 1) := by unfold linkW; rw [va_ne' (by omega), va_at' rfl]
  have eo : ∀ q, q ≠ p → linkW w p j v (4 + 5 * q) = w (4 + 5 * q) := fun q hqq => linkW_off (by omega) (by omega)
  refine ⟨⟨by rw [va_ne' (by omega), va_ne' (by omega), linkW_off (by omega) (by omega)]; exact h1, fun q hqq => ?_⟩, linkW_off (by omega) (by omega), e0, fun q hqq => ?_⟩
  · obtain ⟨a, b⟩ := h2 q hqq
    have hcq := hc q hqq
    by_cases hqp : q = p
    · subst hqp
      refine ⟨by rw [va_at' rfl, va_at' rfl, e0], fun i hi => ?_⟩
      rw [e0, iN_ti (by omega)] at hi
      rw [va_ne' (by omega), va_at' rfl]
      by_cases hij : i = j
      · subst hij
        rw [va_at' rfl]; unfold linkW; rw [va_at' rfl]
      · rw [va_ne' (by omega), linkW_off (by omega) (by omega)]
        exact b i (by rw [hcp, iN_ti (by omega)]; omega)
    · refine ⟨by rw [va_at' rfl, va_ne' hqp, eo q hqp]; exact a, fun i hi => ?_⟩
      rw [eo q hqp] at hi
      rw [va_ne' (by omega), va_at' rfl, va_ne' (by omega), linkW_off (by omega) (by omega)]
      exact b i hi
  · by_cases hqp : q = p
    · subst hqp; rw [e0, iN_ti (by omega)]; omega
    · rw [eo q hqp]; exact hc q hqq
theorem DR.addT {S : pmS} {P : pmP} {I J : pmI} {d T k v tt : Nat} {w : Nat → Int32} (hG : DG S P d) (h : DR I P d w T 0) (hT : T < 5) (hone : ∀ i, i < T → w (46 + 10 * i) = 1) (htt : P (d + 1) T = some tt) (hF : ∀ q, q ≠ d → q ≠ tt → q ≠ tt + 1 → J q = I q) (e3 : J d 3 = iN (T + 1)) (e4 : J d 4 = I d 4) (e5 : J d 5 = I d 5) (hr : TR J tt (freshF w (44 + 10 * T) (iN k) (iN v)) (44 + 10 * T)) : DR J P d (tabW w T k v) (T + 1) 0 := by
  obtain ⟨h1, h2, h3, h4, h5, h6⟩ := h
  obtain ⟨_, a, b⟩ := hG.row_in (by omega) htt
  refine ⟨by rw [e3]; unfold tabW; rw [va_at' rfl], by rw [e4, tabW_off (by omega) (by omega)]; exact h2, by rw [e5, tabW_off (by omega) (by omega)]; exact h3, fun i hi u hu => ?_, fun i hi => absurd hi (by omega), fun p hp => by rw [hF _ (by omega) (by omega) (by omega), tabW_off (by omega) (by omega)]; exact h6 p hp⟩
  by_cases hiT : i = T
  · subst hiT
    cases hu.symm.trans htt
    refine hr.congrW (fun j hj => va_ne' (by omega)) ?_
    have : freshF w (44 + 10 * i) (iN k) (iN v) (44 + 10 * i + 2) = 1 := by simp (disch := omega) only [freshF, va_ne', va_at']
    rw [this]; decide
  · have hap := hG.apart (by omega) (by omega) hiT hu htt
    obtain ⟨_, a2, b2⟩ := hG.row_in (by omega) hu
    refine ((h4 i (by omega) u hu).congrW (fun j hj => tabW_off (by omega) (by omega)) ?_).congr (hF _ (by omega) (by omega) (by omega)) (hF _ (by omega) (by omega) (by omega))
    rw [show 44 + 10 * i + 2 = 46 + 10 * i by omega, hone i (by omega)]; decide
set_option maxHeartbeats 1000000 in
set_option maxRecDepth 20000 in
theorem k_X5_readLaw {E : pmE} {d : Nat} {S : pmS} {I : pmI} {P : pmP} {R : Option Value → pmS → pmI → pmP → Prop} (hR : RdG S P) {tp : Nat → Int32} {a : Nat} (hC : TC I tp) (hT : CT I tp a) (h0 : ∀ e, pLaw tp a = .inl e → ∀ J, FL I J e → R (some (.int 0)) S J P) (h1 : ∀ q, pLaw tp a = .inr q → ∀ J, KP I J 7 → J 4 2 = iN q.2 → (∀ p, p < 8 → J 5 p = 0) → CT J tp q.1 → R (some (.int 1)) S J P) : pmX E (d + 3) 0 0 yX5_readLaw [rr E 2] S I P R := by
  refine pm_of (by decide) cd_X5_readLaw (by decide) (by decide) (Nat.le_of_ble_eq_true rfl) ?_
  intro C G hq
  obtain ⟨c1, c2, c3, c4, c5, c6, c7⟩ := id hR
  have c61 := c6.1
  have c71 := c7.1.1
  refine z_aload_n G dX5_readLaw_0 rfl ?_
  refine z_bipush G (v := 119) dX5_readLaw_1 (by decide) ?_
  refine z_V G lk_X5_74 dX5_readLaw_3 [_] rfl rfl rfl (Nat.le_of_ble_eq_true rfl) ⟨Nat.le_refl _, Nat.le_refl _⟩ (by assumption) ?_
  refine k_X5_take hR hC hT (by decide) ?_ ?_
  · intro e he J1 hf1
    refine z_if_eq G 19 dX5_readLaw_6 (by decide) (fun _ => ?_) (fun c => absurd c (by decide))
    refine z_iconst G (v := 0) dX5_readLaw_19 (by decide) ?_
    exact z_zret G hq dX5_readLaw_20 rfl (h0 e (pB_l he) J1 hf1)
  · intro a1 ha1 J1 k1 _n1 t1
    refine z_if_eq G 19 dX5_readLaw_6 (by decide) (fun c => absurd c (by decide)) (fun _ => ?_)
    refine z_aload_n G dX5_readLaw_9 rfl ?_
    refine z_iconst G (v := 2) dX5_readLaw_10 (by decide) ?_
    refine z_bipush G (v := 8) dX5_readLaw_11 (by decide) ?_
    refine z_V G lk_X5_78 dX5_readLaw_13 [_, _] rfl rfl rfl (Nat.le_of_ble_eq_true rfl) ⟨Nat.le_refl _, Nat.le_refl _⟩ (by assumption) ?_
    refine k_X5_takeNumber (lo := 2) (hi := 8) hR (hC.kp k1) t1 rfl rfl (by omega) (by omega) ?_ ?_
    · intro e he J2 hf2
      refine z_if_ne G 21 dX5_readLaw_16 (by decide) (fun c => absurd c (by decide)) (fun _ => ?_)
      refine z_iconst G (v := 0) dX5_readLaw_19 (by decide) ?_
      exact z_zret G hq dX5_readLaw_20 rfl (h0 e ((pB_r ha1).trans (pB_l he)) J2 (k1.fl (by omega) hf2))
    · intro q hqq J2 k2 n2 t2
      refine z_if_ne G 21 dX5_readLaw_16 (by decide) (fun _ => ?_) (fun c => absurd c (by decide))
      refine z_aload_n G dX5_readLaw_21 rfl ?_
      refine z_getR G fl_X5_18 rfl dX5_readLaw_22 (by assumption) (by assumption) ?_
      refine z_aload_n G dX5_readLaw_25 rfl ?_
      refine z_getI G fl_X5_51 rfl dX5_readLaw_26 (by assumption) ?_
      rw [n2]
      refine z_V G lk_X5_54 dX5_readLaw_29 [_] rfl rfl rfl (Nat.le_of_ble_eq_true rfl) ⟨Nat.le_refl _, Nat.le_refl _⟩ c6.1 ?_
      refine k_X8_begin c6 (fun J3 f3 e3 e4 => ?_)
      have k3 : KP J2 J3 7 := ⟨fun k hk => f3 k (by omega), f3 3 (by omega), by rw [f3 2 (by omega)], by rw [f3 2 (by omega)]⟩
      have k13 := ((k1.tr k2).mono (show 4 ≤ 7 by omega)).tr k3
      refine z_aload_n G dX5_readLaw_32 rfl ?_
      refine z_bipush G (v := 59) dX5_readLaw_33 (by decide) ?_
      refine z_V G lk_X5_74 dX5_readLaw_35 [_] rfl rfl rfl (Nat.le_of_ble_eq_true rfl) ⟨Nat.le_refl _, Nat.le_refl _⟩ (by assumption) ?_
      refine k_X5_take hR (hC.kp k13) (t2.congr (f3 2 (by omega))) (by decide) ?_ ?_
      · intro e he J4 hf4
        exact z_zret G hq dX5_readLaw_38 rfl (h0 e ((pB_r ha1).trans ((pB_r hqq).trans (pB_l he))) J4 (k13.fl (by omega) hf4))
      · intro a4 ha4 J4 k4 _n4 t4
        exact z_zret G hq dX5_readLaw_38 rfl (h1 (a4, q.2) ((pB_r ha1).trans ((pB_r hqq).trans (pB_r ha4))) J4 (k13.tr (k4.mono (by omega))) (by rw [k4.1 4 (by omega)]; exact e3) (fun p hp => by rw [k4.1 5 (by omega)]; exact e4 p hp) t4)
set_option maxHeartbeats 1000000 in
set_option maxRecDepth 20000 in
theorem k_X5_readLinks {E : pmE} {d : Nat} {S : pmS} {I : pmI} {P : pmP} {R : Option Value → pmS → pmI → pmP → Prop} (hR : RdG S P) {tp : Nat → Int32} {n p a : Nat} {x : Int32} {w : Nat → Int32} (hC : TC I tp) (hT : CT I tp a) (hx : x.toInt = (p : Int)) (hp : p < n) (h8 : n ≤ 8) (hW : WR I 4 w n) (hw0 : w 0 = iN n) (hcz : w (4 + 5 * p) = 0) (hc3 : ∀ e, e < n → (w (4 + 5 * e)).toInt ≤ 3) {X : pR (Nat × (Nat → Int32))} (hX : pLk tp n p 3 0 a w = X) (h0 : ∀ e, X = .inl e → ∀ J, FL I J e → R (some (.int 0)) S J P) (h1 : ∀ q, X = .inr q → ∀ J, KP I J 7 → CT J tp q.1 → WR J 4 q.2 n → q.2 0 = iN n → (∀ e, e < n → (q.2 (4 + 5 * e)).toInt ≤ 3) → R (some (.int 1)) S J P) : pmX E (d + 3) 0 0 yX5_readLinks [rr E 2, .int x] S I P R := by
  refine pm_of (by decide) cd_X5_readLinks (by decide) (by decide) (Nat.le_of_ble_eq_true rfl) ?_
  intro C G hq
  obtain ⟨c1, c2, c3, c4, c5, c6, c7⟩ := id hR
  have c61 := c6.1
  have c71 := c7.1.1
  have loop : ∀ (r j a : Nat) (u : Int32) (J : pmI) (w : Nat → Int32), u.toInt = (j : Int) → j + r = 3 → KP I J 7 → CT J tp a → WR J 4 w n → w 0 = iN n → w (4 + 5 * p) = iN j → (∀ e, e < n → (w (4 + 5 * e)).toInt ≤ 3) → pLk tp n p r j a w = X → pmZ E C 2 [some (rr E 2), some (.int x), some (.int u)] [] S J P 0 0 := by
    intro r
    induction r with
    | zero =>
      intro j a u J w hu hr kJ tJ hW hw0 hcp hc3 hX
      obtain rfl : j = 3 := by omega
      refine z_iload_n G dX5_readLinks_2 rfl ?_
      refine z_iconst G (v := 3) dX5_readLinks_3 (by decide) ?_
      refine z_icmp_ge G 72 dX5_readLinks_4 (by decide) (fun _ => ?_) (fun c => absurd c (fun z => z (by simp (disch := omega) only [iN_lit, iN_add, iN_sub, iN_mul, iN_an, iN_le, iN_lt, iN_eq, iN_of hu] <;> omega)))
      refine z_iconst G (v := 1) dX5_readLinks_72 (by decide) ?_
      exact z_zret G hq dX5_readLinks_73 rfl (h1 (a, w) hX.symm J kJ tJ hW hw0 hc3)
    | succ r ih =>
      intro j a u J w hu hr kJ tJ hW hw0 hcp hc3 hX
      have tail : ∀ (a1 : Nat) (J1 : pmI), KP J J1 4 → CT J1 tp a1 → (pB (pNum tp 0 (n - 1) a1) fun q => pLk tp n p r (j + 1) q.1 (linkW w p j q.2)) = X → pmZ E C 35 [some (rr E 2), some (.int x), some (.int u)] [] S J1 P 0 0 := by
        intro a1 J1 kJ1 t1 hX1
        have kI1 : KP I J1 7 := kJ.tr (kJ1.mono (by omega))
        have hW1 : WR J1 4 w n := hW.congr (fun k q1 q2 => kJ1.1 k (by omega))
        have hsz : (J1 4 2).toInt = (n : Int) := by rw [hW1.1, hw0]; exact iN_ti (by omega)
        refine z_aload_n G dX5_readLinks_35 rfl ?_
        refine z_iconst G (v := 0) dX5_readLinks_36 (by decide) ?_
        refine z_aload_n G dX5_readLinks_37 rfl ?_
        refine z_getR G fl_X5_18 rfl dX5_readLinks_38 (by assumption) (by assumption) ?_
        refine z_getI G fl_X5_82 rfl dX5_readLinks_41 (by assumption) ?_
        refine z_iconst G (v := 1) dX5_readLinks_44 (by decide) ?_
        refine z_isub G dX5_readLinks_45 ?_
        refine z_V G lk_X5_78 dX5_readLinks_46 [_, _] rfl rfl rfl (Nat.le_of_ble_eq_true rfl) ⟨Nat.le_refl _, Nat.le_refl _⟩ (by assumption) ?_
        refine k_X5_takeNumber (lo := 0) (hi := n - 1) hR (hC.kp kI1) t1 rfl (by simp (disch := omega) only [iN_lit, iN_add, iN_sub, iN_mul, iN_an, iN_of hsz] <;> exact congrArg iN (by omega)) (by omega) (by omega) ?_ ?_
        · intro e he J2 hf2
          refine z_if_ne G 54 dX5_readLinks_49 (by decide) (fun c => absurd c (by decide)) (fun _ => ?_)
          refine z_iconst G (v := 0) dX5_readLinks_52 (by decide) ?_
          exact z_zret G hq dX5_readLinks_53 rfl (h0 e (hX1.symm.trans (pB_l he)) J2 (kI1.fl (by omega) hf2))
        · intro q hqq J2 k2 n2 t2
          refine z_if_ne G 54 dX5_readLinks_49 (by decide) (fun _ => ?_) (fun c => absurd c (by decide))
          refine z_aload_n G dX5_readLinks_54 rfl ?_
          refine z_getR G fl_X5_18 rfl dX5_readLinks_55 (by assumption) (by assumption) ?_
          refine z_iload_n G dX5_readLinks_58 rfl ?_
          refine z_aload_n G dX5_readLinks_59 rfl ?_
          refine z_getI G fl_X5_51 rfl dX5_readLinks_60 (by assumption) ?_
          rw [n2]
          have hW2 : WR J2 4 w n := hW1.congr (fun k q1 q2 => k2.1 k (by omega))
          refine z_V G lk_X5_88 dX5_readLinks_63 [_, _] rfl rfl rfl (Nat.le_of_ble_eq_true rfl) ⟨Nat.le_refl _, Nat.le_refl _⟩ c6.1 ?_
          refine k_X8_addLink (j := j) c6 (by rw [hW2.1, hw0]; exact iN_ti (by omega)) hx hp h8 (by rw [(hW2.2 p hp).1, hcp]; exact iN_ti (by omega)) (by omega) ?_
          refine z_iinc G (v := 1) dX5_readLinks_66 (by decide) rfl rfl ?_
          refine z_goto G 2 dX5_readLinks_69 (by decide) ?_
          obtain ⟨l1, l2, l3, l4⟩ := hW2.link (v := q.2) hc3 hp (show j < 3 by omega) hcp
          refine ih (j + 1) q.1 _ _ (linkW w p j q.2) (by simp (disch := omega) only [iN_lit, iN_add, iN_sub, iN_mul, iN_an, iN_of hu]; exact iN_ti2 (by omega) (by omega)) (by omega) (kI1.tr ((k2.mono (show 4 ≤ 7 by omega)).tr ⟨fun k hk => by rw [va_ne' (by omega), va_ne' (by omega)], by rw [va_ne' (by omega), va_ne' (by omega)], by rw [va_ne' (by omega), va_ne' (by omega)], by rw [va_ne' (by omega), va_ne' (by omega)]⟩)) (t2.congr (by rw [va_ne' (by omega), va_ne' (by omega)])) l1 (l2.trans hw0) l3 l4 ((pB_r (f := fun q => pLk tp n p r (j + 1) q.1 (linkW w p j q.2)) hqq).symm.trans hX1)
      refine z_iload_n G dX5_readLinks_2 rfl ?_
      refine z_iconst G (v := 3) dX5_readLinks_3 (by decide) ?_
      refine z_icmp_ge G 72 dX5_readLinks_4 (by decide) (fun c => absurd c (by simp (disch := omega) only [iN_lit, iN_add, iN_sub, iN_mul, iN_an, iN_le, iN_lt, iN_eq, iN_of hu]; omega)) (fun _ => ?_)
      refine z_iload_n G dX5_readLinks_7 rfl ?_
      refine z_if_le G 22 dX5_readLinks_8 (by decide) (fun b8 => ?_) (fun b8 => ?_)
      · have hj0 : j = 0 := by simp (disch := omega) only [iN_lit, iN_add, iN_sub, iN_mul, iN_an, iN_le, iN_lt, iN_eq, iN_of hu] at b8; omega
        refine z_iload_n G dX5_readLinks_22 rfl ?_
        refine z_if_le G 35 dX5_readLinks_23 (by decide) (fun _ => ?_) (fun c => absurd c (fun z => z b8))
        refine tail a J KP.rf tJ ?_
        unfold pLk at hX
        rw [if_neg (fun z => absurd z.1 (by omega)), if_neg (by omega)] at hX
        exact hX
      · have hj0 : 0 < j := by simp (disch := omega) only [iN_lit, iN_add, iN_sub, iN_mul, iN_an, iN_le, iN_lt, iN_eq, iN_of hu] at b8; omega
        refine z_aload_n G dX5_readLinks_11 rfl ?_
        refine z_getI G fl_X5_42 rfl dX5_readLinks_12 (by assumption) ?_
        rw [tJ.2.1]
        refine z_bipush G (v := 44) dX5_readLinks_15 (by decide) ?_
        refine z_icmp_eq G 22 dX5_readLinks_17 (by decide) (fun b17 => ?_) (fun b17 => ?_)
        · refine z_iload_n G dX5_readLinks_22 rfl ?_
          refine z_if_le G 35 dX5_readLinks_23 (by decide) (fun c => absurd c b8) (fun _ => ?_)
          refine z_aload_n G dX5_readLinks_26 rfl ?_
          refine z_bipush G (v := 44) dX5_readLinks_27 (by decide) ?_
          refine z_V G lk_X5_74 dX5_readLinks_29 [_] rfl rfl rfl (Nat.le_of_ble_eq_true rfl) ⟨Nat.le_refl _, Nat.le_refl _⟩ (by assumption) ?_
          refine k_X5_take hR (hC.kp kJ) tJ (by decide) (fun e he => absurd (he.symm.trans (pTake_r b17)) (by simp)) (fun a1 ha1 J1 k1 _ t1 => ?_)
          refine z_if_eq G 52 dX5_readLinks_32 (by decide) (fun c => absurd c (by decide)) (fun _ => ?_)
          refine tail a1 J1 k1 t1 ?_
          unfold pLk at hX
          rw [if_neg (fun z => z.2 b17), if_pos hj0] at hX
          rw [(pTake_in ha1).2]
          exact hX
        · refine z_iconst G (v := 1) dX5_readLinks_20 (by decide) ?_
          exact z_zret G hq dX5_readLinks_21 rfl (h1 (a, w) (by rw [← hX]; unfold pLk; rw [if_pos ⟨hj0, b17⟩]) J kJ tJ hW hw0 hc3)
  refine z_iconst G (v := 0) dX5_readLinks_0 (by decide) ?_
  refine z_istore_n G dX5_readLinks_1 (Nat.le_of_ble_eq_true rfl) rfl ?_
  exact loop 3 0 a 0 I w rfl (by omega) KP.rf hT hW hw0 hcz hc3 hX
set_option maxHeartbeats 1000000 in
set_option maxRecDepth 20000 in
theorem k_X5_readPages {E : pmE} {d : Nat} {S : pmS} {I : pmI} {P : pmP} {R : Option Value → pmS → pmI → pmP → Prop} (hR : RdG S P) {tp : Nat → Int32} {n a : Nat} {w : Nat → Int32} (hC : TC I tp) (hT : CT I tp a) (h8 : n ≤ 8) (hW : WR I 4 w n) (hw0 : w 0 = iN n) (hz : ∀ e, e < n → w (4 + 5 * e) = 0) {X : pR (Nat × (Nat → Int32))} (hX : pPg tp n n 0 a w = X) (h0 : ∀ e, X = .inl e → ∀ J, FL I J e → R (some (.int 0)) S J P) (h1 : ∀ q, X = .inr q → ∀ J, KP I J 7 → CT J tp q.1 → WR J 4 q.2 n → q.2 0 = iN n → (∀ e, e < n → (q.2 (4 + 5 * e)).toInt ≤ 3) → R (some (.int 1)) S J P) : pmX E (d + 4) 0 0 yX5_readPages [rr E 2] S I P R := by
  refine pm_of (by decide) cd_X5_readPages (by decide) (by decide) (Nat.le_of_ble_eq_true rfl) ?_
  intro C G hq
  obtain ⟨c1, c2, c3, c4, c5, c6, c7⟩ := id hR
  have c61 := c6.1
  have c71 := c7.1.1
  have loop : ∀ (r p a : Nat) (u : Int32) (J : pmI) (w : Nat → Int32), u.toInt = (p : Int) → p + r = n → KP I J 7 → CT J tp a → WR J 4 w n → w 0 = iN n → (∀ e, p ≤ e → e < n → w (4 + 5 * e) = 0) → (∀ e, e < n → (w (4 + 5 * e)).toInt ≤ 3) → pPg tp n r p a w = X → pmZ E C 2 [some (rr E 2), some (.int u)] [] S J P 0 0 := by
    intro r
    induction r with
    | zero =>
      intro p a u J w hu hr kJ tJ hW hw0 hz hc3 hX
      obtain rfl : p = n := by omega
      have hsz : (J 4 2).toInt = (p : Int) := by rw [hW.1, hw0]; exact iN_ti (by omega)
      refine z_iload_n G dX5_readPages_2 rfl ?_
      refine z_aload_n G dX5_readPages_3 rfl ?_
      refine z_getR G fl_X5_18 rfl dX5_readPages_4 (by assumption) (by assumption) ?_
      refine z_getI G fl_X5_82 rfl dX5_readPages_7 (by assumption) ?_
      refine z_icmp_ge G 47 dX5_readPages_10 (by decide) (fun _ => ?_) (fun c => absurd c (fun z => z (by simp (disch := omega) only [iN_lit, iN_add, iN_sub, iN_mul, iN_an, iN_le, iN_lt, iN_eq, iN_of hu, iN_of hsz] <;> omega)))
      refine z_iconst G (v := 1) dX5_readPages_47 (by decide) ?_
      exact z_zret G hq dX5_readPages_48 rfl (h1 (a, w) hX.symm J kJ tJ hW hw0 hc3)
    | succ r ih =>
      intro p a u J w hu hr kJ tJ hW hw0 hz hc3 hX
      have hsz : (J 4 2).toInt = (n : Int) := by rw [hW.1, hw0]; exact iN_ti (by omega)
      refine z_iload_n G dX5_readPages_2 rfl ?_
      refine z_aload_n G dX5_readPages_3 rfl ?_
      refine z_getR G fl_X5_18 rfl dX5_readPages_4 (by assumption) (by assumption) ?_
      refine z_getI G fl_X5_82 rfl dX5_readPages_7 (by assumption) ?_
      refine z_icmp_ge G 47 dX5_readPages_10 (by decide) (fun c => absurd c (by simp (disch := omega) only [iN_lit, iN_add, iN_sub, iN_mul, iN_an, iN_le, iN_lt, iN_eq, iN_of hu, iN_of hsz]; omega)) (fun _ => ?_)
      refine z_aload_n G dX5_readPages_13 rfl ?_
      refine z_bipush G (v := 108) dX5_readPages_14 (by decide) ?_
      refine z_V G lk_X5_74 dX5_readPages_16 [_] rfl rfl rfl (Nat.le_of_ble_eq_true rfl) ⟨Nat.le_refl _, Nat.le_refl _⟩ (by assumption) ?_
      refine k_X5_take hR (hC.kp kJ) tJ (by decide) ?_ ?_
      · intro e he J1 hf1
        refine z_if_eq G 39 dX5_readPages_19 (by decide) (fun _ => ?_) (fun c => absurd c (by decide))
        refine z_iconst G (v := 0) dX5_readPages_39 (by decide) ?_
        exact z_zret G hq dX5_readPages_40 rfl (h0 e (hX.symm.trans (pB_l he)) J1 (kJ.fl (by omega) hf1))
      · intro a1 ha1 J1 k1 _n1 t1
        refine z_if_eq G 39 dX5_readPages_19 (by decide) (fun c => absurd c (by decide)) (fun _ => ?_)
        refine z_aload_n G dX5_readPages_22 rfl ?_
        refine z_iload_n G dX5_readPages_23 rfl ?_
        have kI1 : KP I J1 7 := kJ.tr (k1.mono (by omega))
        refine z_V G lk_X5_85 dX5_readPages_24 [_] rfl rfl rfl (Nat.le_of_ble_eq_true rfl) ⟨Nat.le_refl _, Nat.le_refl _⟩ (by assumption) ?_
        refine k_X5_readLinks hR (hC.kp kI1) t1 hu (by omega) h8 (hW.congr (fun k q1 q2 => k1.1 k (by omega))) hw0 (hz p (Nat.le_refl _) (by omega)) hc3 rfl ?_ ?_
        · intro e he J2 hf2
          refine z_if_eq G 39 dX5_readPages_27 (by decide) (fun _ => ?_) (fun c => absurd c (by decide))
          refine z_iconst G (v := 0) dX5_readPages_39 (by decide) ?_
          exact z_zret G hq dX5_readPages_40 rfl (h0 e (hX.symm.trans ((pB_r ha1).trans (pB_l (pB_l he)))) J2 (kI1.fl (by omega) hf2))
        · intro q hqq J2 k2 t2 W2 z2 c2
          refine z_if_eq G 39 dX5_readPages_27 (by decide) (fun c => absurd c (by decide)) (fun _ => ?_)
          refine z_aload_n G dX5_readPages_30 rfl ?_
          refine z_bipush G (v := 59) dX5_readPages_31 (by decide) ?_
          have kI2 : KP I J2 7 := kI1.tr k2
          refine z_V G lk_X5_74 dX5_readPages_33 [_] rfl rfl rfl (Nat.le_of_ble_eq_true rfl) ⟨Nat.le_refl _, Nat.le_refl _⟩ (by assumption) ?_
          refine k_X5_take hR (hC.kp kI2) t2 (by decide) ?_ ?_
          · intro e he J3 hf3
            refine z_if_ne G 41 dX5_readPages_36 (by decide) (fun c => absurd c (by decide)) (fun _ => ?_)
            refine z_iconst G (v := 0) dX5_readPages_39 (by decide) ?_
            exact z_zret G hq dX5_readPages_40 rfl (h0 e (hX.symm.trans ((pB_r ha1).trans (pB_l ((pB_r hqq).trans (pB_l he))))) J3 (kI2.fl (by omega) hf3))
          · intro a3 ha3 J3 k3 _n3 t3
            refine z_if_ne G 41 dX5_readPages_36 (by decide) (fun _ => ?_) (fun c => absurd c (by decide))
            refine z_iinc G (v := 1) dX5_readPages_41 (by decide) rfl rfl ?_
            refine z_goto G 2 dX5_readPages_44 (by decide) ?_
            have hk := pLk_keep 3 0 a1 w q rfl hqq
            have epp : pPage tp n p a1 w = .inr (a3, q.2) := (pB_r hqq).trans (pB_r ha3)
            have e9 : pPg tp n (r + 1) p a w = pPg tp n r (p + 1) a3 q.2 := (pB_r ha1).trans (pB_r epp)
            refine ih (p + 1) a3 _ J3 q.2 (by simp (disch := omega) only [iN_lit, iN_add, iN_sub, iN_mul, iN_an, iN_of hu]; exact iN_ti2 (by omega) (by omega)) (by omega) (kI2.tr (k3.mono (by omega))) t3 (W2.congr (fun k q1 q2 => k3.1 k (by omega))) z2 (fun e e1 e2 => by rw [hk _ (by omega)]; exact hz e (by omega) e2) c2 (e9.symm.trans hX)
  refine z_iconst G (v := 0) dX5_readPages_0 (by decide) ?_
  refine z_istore_n G dX5_readPages_1 (Nat.le_of_ble_eq_true rfl) rfl ?_
  exact loop n 0 a 0 I w rfl (by omega) KP.rf hT hW hw0 (fun e _ he => hz e he) (fun e he => by rw [hz e he]; decide) hX
set_option maxHeartbeats 1000000 in
set_option maxRecDepth 20000 in
theorem k_X5_readTab {E : pmE} {d : Nat} {S : pmS} {I : pmI} {P : pmP} {R : Option Value → pmS → pmI → pmP → Prop} (hR : RdG S P) {tp : Nat → Int32} {n T a : Nat} {w : Nat → Int32} (hC : TC I tp) (hT : CT I tp a) (hD : DR I P 7 w T 0) (hn : I 4 2 = iN n) (hn1 : 1 ≤ n) (h8 : n ≤ 8) (hTw : w 1 = iN T) (hT5 : T ≤ 5) (hone : ∀ i, i < T → w (46 + 10 * i) = 1) {X : pR (Nat × (Nat → Int32))} (hX : pTab tp n T a w = X) (h0 : ∀ e, X = .inl e → ∀ J, FL I J e → R (some (.int 0)) S J P) (h1 : ∀ q, X = .inr q → ∀ J, KP I J 27 → (∀ k, 4 ≤ k → k < 7 → J k = I k) → CT J tp q.1 → DR J P 7 q.2 (T + 1) 0 → R (some (.int 1)) S J P) : pmX E (d + 3) 0 0 yX5_readTab [rr E 2] S I P R := by
  refine pm_of (by decide) cd_X5_readTab (by decide) (by decide) (Nat.le_of_ble_eq_true rfl) ?_
  intro C G hq
  obtain ⟨c1, c2, c3, c4, c5, c6, c7⟩ := id hR
  obtain ⟨L, hL, hP, hv⟩ := id hC
  have hL80 := hP.1
  have c61 := c6.1
  have c71 := c7.1.1
  refine z_aload_n G dX5_readTab_0 rfl ?_
  refine z_getI G fl_X5_42 rfl dX5_readTab_1 (by assumption) ?_
  rw [hT.2.1]
  refine z_S G lk_X5_95 dX5_readTab_4 [_] rfl rfl rfl (Nat.le_of_ble_eq_true rfl) ⟨Nat.le_refl _, Nat.le_refl _⟩ ?_
  refine k_X5_sortOf ?_ ?_
  · intro hk
    refine z_istore_n G dX5_readTab_7 (Nat.le_of_ble_eq_true rfl) rfl ?_
    refine z_iload_n G dX5_readTab_8 rfl ?_
    refine z_ldc G ct_X5_99 dX5_readTab_9 ?_
    refine z_icmp_ne G 20 dX5_readTab_11 (by decide) (fun _ => ?_) (fun c => absurd c (fun z => by have := congrArg Int32.toInt z; rw [iN_ti (by have := kdOf_5 (tkT tp a); omega)] at this; rw [show ((-1000000 : Int32)).toInt = -1000000 from by decide] at this; omega))
    refine z_aload_n G dX5_readTab_20 rfl ?_
    refine z_getR G fl_X5_25 rfl dX5_readTab_21 (by assumption) (by assumption) ?_
    refine z_V G lk_X5_103 dX5_readTab_24 [] rfl rfl rfl (Nat.le_of_ble_eq_true rfl) ⟨Nat.le_refl _, Nat.le_refl _⟩ c7.1.1 ?_
    refine k_X1_hasRoom c7.1.1 (T := T) (by rw [hD.1, hTw]; exact iN_ti (by omega)) ?_ ?_
    · intro h5
      refine z_if_ne G 36 dX5_readTab_27 (by decide) (fun _ => ?_) (fun c => absurd c (by decide))
      refine z_aload_n G dX5_readTab_36 rfl ?_
      have hne : ¬ tkT tp a = -1 := fun z => by rw [z] at hk; exact hk (by decide)
      have hXe : X = pB (pNum tp 0 (n - 1) (tkE tp a)) fun q => pB (pTake tp 59 q.1) fun a3 => .inr (a3, tabW w T (kdOf (tkT tp a)) q.2) := by rw [← hX]; unfold pTab; rw [if_neg hk, if_pos h5]
      obtain ⟨tt, ht1, ht2, ht3, ht4⟩ := c7.row (show T < 5 by omega)
      refine z_V G lk_X5_61 dX5_readTab_37 [] rfl rfl rfl (Nat.le_of_ble_eq_true rfl) ⟨Nat.le_refl _, Nat.le_refl _⟩ (by assumption) ?_
      refine k_X5_advance hR hC hT.2.2.2 (hP.ne hne) (fun J1 k1 _ _ t1 => ?_)
      refine z_aload_n G dX5_readTab_40 rfl ?_
      refine z_iconst G (v := 0) dX5_readTab_41 (by decide) ?_
      refine z_aload_n G dX5_readTab_42 rfl ?_
      refine z_getR G fl_X5_18 rfl dX5_readTab_43 (by assumption) (by assumption) ?_
      refine z_getI G fl_X5_82 rfl dX5_readTab_46 (by assumption) ?_
      refine z_iconst G (v := 1) dX5_readTab_49 (by decide) ?_
      refine z_isub G dX5_readTab_50 ?_
      refine z_V G lk_X5_78 dX5_readTab_51 [_, _] rfl rfl rfl (Nat.le_of_ble_eq_true rfl) ⟨Nat.le_refl _, Nat.le_refl _⟩ (by assumption) ?_
      refine k_X5_takeNumber (lo := 0) (hi := n - 1) hR (hC.kp k1) t1 rfl (by rw [k1.1 4 (by omega), hn]; exact iN_sub (b := 1) hn1) (by omega) (by omega) ?_ ?_
      · intro e he J2 hf2
        refine z_if_ne G 59 dX5_readTab_54 (by decide) (fun c => absurd c (by decide)) (fun _ => ?_)
        refine z_iconst G (v := 0) dX5_readTab_57 (by decide) ?_
        exact z_zret G hq dX5_readTab_58 rfl (h0 e (hXe.trans (pB_l he)) J2 (k1.fl (by omega) hf2))
      · intro q hqq J2 k2 n2 t2
        refine z_if_ne G 59 dX5_readTab_54 (by decide) (fun _ => ?_) (fun c => absurd c (by decide))
        refine z_aload_n G dX5_readTab_59 rfl ?_
        refine z_getR G fl_X5_25 rfl dX5_readTab_60 (by assumption) (by assumption) ?_
        refine z_getR G fl_X5_106 rfl dX5_readTab_63 c7.1.1 c7.1.2.1 ?_
        refine z_aload_n G dX5_readTab_66 rfl ?_
        refine z_getR G fl_X5_25 rfl dX5_readTab_67 (by assumption) (by assumption) ?_
        refine z_getI G fl_X5_110 rfl dX5_readTab_70 c7.1.1 ?_
        have k12 := k1.tr k2
        have hTJ : (J2 7 3).toInt = (T : Int) := by rw [k12.1 7 (by omega), hD.1, hTw]; exact iN_ti (by omega)
        refine z_aald G 5 (T) rfl (by decide) dX5_readTab_73 c7.1.2.2.2.2.1 (hTJ) (by omega) ht1 ?_
        refine z_iload_n G dX5_readTab_74 rfl ?_
        refine z_aload_n G dX5_readTab_75 rfl ?_
        refine z_getI G fl_X5_51 rfl dX5_readTab_76 (by assumption) ?_
        rw [n2]
        refine z_V G lk_X5_113 dX5_readTab_79 [_, _] rfl rfl rfl (Nat.le_of_ble_eq_true rfl) ⟨Nat.le_refl _, Nat.le_refl _⟩ ht2.1 ?_
        refine k_X7_begin ht2 (fun J3 f3 r3 => ?_)
        refine z_aload_n G dX5_readTab_82 rfl ?_
        refine z_getR G fl_X5_25 rfl dX5_readTab_83 (by assumption) (by assumption) ?_
        refine z_dup G dX5_readTab_86 rfl ?_
        refine z_getI G fl_X5_110 rfl dX5_readTab_87 c7.1.1 ?_
        rw [f3 7 (by omega) (by omega)]
        refine z_iconst G (v := 1) dX5_readTab_90 (by decide) ?_
        refine z_iadd G dX5_readTab_91 ?_
        refine z_top (y := iN (T + 1)) (by simp (disch := omega) only [iN_lit, iN_add, iN_sub, iN_mul, iN_an, iN_of hTJ] <;> exact congrArg iN (by omega)) ?_
        refine z_putI G fl_X5_110 ft_1_3 rfl rfl rfl dX5_readTab_92 c7.1.1 ?_
        refine z_aload_n G dX5_readTab_95 rfl ?_
        refine z_bipush G (v := 59) dX5_readTab_96 (by decide) ?_
        have kI4 : KP I (va_up J3 7 (va_up (J3 7) 3 (iN (T + 1)))) 27 := (k12.mono (show 4 ≤ 27 by omega)).tr ⟨fun k hk => by rw [va_ne' (by omega)]; exact f3 k (by omega) (by omega), by rw [va_ne' (by omega)]; exact f3 3 (by omega) (by omega), by rw [va_ne' (by omega), f3 2 (by omega) (by omega)], by rw [va_ne' (by omega), f3 2 (by omega) (by omega)]⟩
        have hD4 : DR (va_up J3 7 (va_up (J3 7) 3 (iN (T + 1)))) P 7 (tabW w T (kdOf (tkT tp a)) q.2) (T + 1) 0 := (hD.congr c7 hT5 (by omega) (fun _ _ _ => rfl) (fun k z1 z2 => k12.1 k (by omega))).addT c7 h5 hone ht1 (fun z z1 z2 z3 => by rw [va_ne' z1]; exact f3 z z2 z3) (by simp (disch := omega) only [va_at', va_ne', va_up_up]) (by simp (disch := omega) only [va_at', va_ne', va_up_up]; rw [f3 7 (by omega) (by omega)]) (by simp (disch := omega) only [va_at', va_ne', va_up_up]; rw [f3 7 (by omega) (by omega)]) ((r3 w (44 + 10 * T)).congr (va_ne' (by omega)) (va_ne' (by omega)))
        refine z_V G lk_X5_74 dX5_readTab_98 [_] rfl rfl rfl (Nat.le_of_ble_eq_true rfl) ⟨Nat.le_refl _, Nat.le_refl _⟩ (by assumption) ?_
        refine k_X5_take hR (hC.kp kI4) (t2.congr (by rw [va_ne' (by omega)]; exact f3 2 (by omega) (by omega))) (by decide) ?_ ?_
        · intro e he J5 hf5
          exact z_zret G hq dX5_readTab_101 rfl (h0 e (hXe.trans ((pB_r hqq).trans (pB_l he))) J5 (kI4.fl (by omega) hf5))
        · intro a5 ha5 J5 k5 _n5 t5
          exact z_zret G hq dX5_readTab_101 rfl (h1 (a5, _) (hXe.trans ((pB_r hqq).trans (pB_r ha5))) J5 (kI4.tr (k5.mono (by omega))) (fun k z1 z2 => by rw [k5.1 k (by omega), va_ne' (by omega), f3 k (by omega) (by omega)]; exact k12.1 k (by omega)) t5 (hD4.congr c7 (by omega) (by omega) (fun _ _ _ => rfl) (fun k z1 z2 => k5.1 k (by omega))))
    · intro h5
      refine z_if_ne G 36 dX5_readTab_27 (by decide) (fun c => absurd c (by decide)) (fun _ => ?_)
      refine z_aload_n G dX5_readTab_30 rfl ?_
      refine z_iconst G (v := 3) dX5_readTab_31 (by decide) ?_
      refine z_V G lk_X5_100 dX5_readTab_32 [_] rfl rfl rfl (Nat.le_of_ble_eq_true rfl) ⟨Nat.le_refl _, Nat.le_refl _⟩ (by assumption) ?_
      refine k_X5_wrong c1 ?_
      exact z_zret G hq dX5_readTab_35 rfl (h0 (3, a) (by rw [← hX]; unfold pTab; rw [if_neg hk, if_neg h5]) _ ⟨fun k hk => va_ne' (by omega), by simp (disch := omega) only [va_at', va_ne', va_up_up], by simp (disch := omega) only [va_at', va_ne', va_up_up]; exact hT.1⟩)
  · intro hk
    refine z_istore_n G dX5_readTab_7 (Nat.le_of_ble_eq_true rfl) rfl ?_
    refine z_iload_n G dX5_readTab_8 rfl ?_
    refine z_ldc G ct_X5_99 dX5_readTab_9 ?_
    refine z_icmp_ne G 20 dX5_readTab_11 (by decide) (fun c => absurd c (by decide)) (fun _ => ?_)
    refine z_aload_n G dX5_readTab_14 rfl ?_
    refine z_iconst G (v := 1) dX5_readTab_15 (by decide) ?_
    refine z_V G lk_X5_100 dX5_readTab_16 [_] rfl rfl rfl (Nat.le_of_ble_eq_true rfl) ⟨Nat.le_refl _, Nat.le_refl _⟩ (by assumption) ?_
    refine k_X5_wrong c1 ?_
    exact z_zret G hq dX5_readTab_19 rfl (h0 (1, a) (by rw [← hX]; unfold pTab; rw [if_pos hk]) _ ⟨fun k hk => va_ne' (by omega), by simp (disch := omega) only [va_at', va_ne', va_up_up], by simp (disch := omega) only [va_at', va_ne', va_up_up]; exact hT.1⟩)
set_option maxHeartbeats 1000000 in
set_option maxRecDepth 20000 in
theorem k_X5_readTabs {E : pmE} {d : Nat} {S : pmS} {I : pmI} {P : pmP} {R : Option Value → pmS → pmI → pmP → Prop} (hR : RdG S P) {tp : Nat → Int32} {n a : Nat} {w : Nat → Int32} (hC : TC I tp) (hT : CT I tp a) (hD : DR I P 7 w 0 0) (hn : I 4 2 = iN n) (hn1 : 1 ≤ n) (h8 : n ≤ 8) (hV : VT w n 0) {X : pR (Nat → Int32)} (hX : pTb tp n 6 0 a w = X) (h0 : ∀ e, X = .inl e → ∀ J, FL I J e → R (some (.int 0)) S J P) (h1 : ∀ w', X = .inr w' → ∀ J T', KP I J 27 → (∀ k, 4 ≤ k → k < 7 → J k = I k) → 1 ≤ T' → T' ≤ 5 → VT w' n T' → DR J P 7 w' T' 0 → R (some (.int 1)) S J P) : pmX E (d + 4) 0 0 yX5_readTabs [rr E 2] S I P R := by
  refine pm_of (by decide) cd_X5_readTabs (by decide) (by decide) (Nat.le_of_ble_eq_true rfl) ?_
  intro C G hq
  obtain ⟨c1, c2, c3, c4, c5, c6, c7⟩ := id hR
  have c61 := c6.1
  have c71 := c7.1.1
  have loop : ∀ (f T a : Nat) (u : Int32) (J : pmI) (w : Nat → Int32), u.toInt = (T : Int) → T + f = 6 → T ≤ 5 → KP I J 27 → (∀ k, 4 ≤ k → k < 7 → J k = I k) → CT J tp a → DR J P 7 w T 0 → VT w n T → pTb tp n f T a w = X → pmZ E C 2 [some (rr E 2), some (.int u)] [] S J P 0 0 := by
    intro f
    induction f with
    | zero => intro T a u J w hu hf hT5; omega
    | succ f ih =>
      intro T a u J w hu hf hT5 kJ k46 tJ hDJ hVJ hX
      have tail : ¬ (0 < T ∧ tkT tp a = -1) → pmZ E C 21 [some (rr E 2), some (.int u)] [] S J P 0 0 := by
        intro hno
        have hX1 : (pB (pTab tp n T a w) fun q => pTb tp n f (T + 1) q.1 q.2) = X := by rw [← hX]; show _ = (if 0 < T ∧ tkT tp a = -1 then _ else _); rw [if_neg hno]
        refine z_aload_n G dX5_readTabs_21 rfl ?_
        refine z_V G lk_X5_92 dX5_readTabs_22 [] rfl rfl rfl (Nat.le_of_ble_eq_true rfl) ⟨Nat.le_refl _, Nat.le_refl _⟩ (by assumption) ?_
        refine k_X5_readTab hR (hC.kp kJ) tJ hDJ (by rw [k46 4 (by omega) (by omega)]; exact hn) hn1 h8 hVJ.2.1 hT5 (fun i hi => (hVJ.2.2.2.2.2.2 i hi).2) rfl ?_ ?_
        · intro e he J2 hf2
          refine z_if_ne G 30 dX5_readTabs_25 (by decide) (fun c => absurd c (by decide)) (fun _ => ?_)
          refine z_iconst G (v := 0) dX5_readTabs_28 (by decide) ?_
          exact z_zret G hq dX5_readTabs_29 rfl (h0 e (hX1.symm.trans (pB_l he)) J2 (kJ.fl (by omega) hf2))
        · intro q hqq J2 k2 k2b t2 D2
          refine z_if_ne G 30 dX5_readTabs_25 (by decide) (fun _ => ?_) (fun c => absurd c (by decide))
          refine z_iinc G (v := 1) dX5_readTabs_30 (by decide) rfl rfl ?_
          refine z_goto G 2 dX5_readTabs_33 (by decide) ?_
          have hT4 := (pTab_in hqq).2.1
          exact ih (T + 1) q.1 _ J2 q.2 (by simp (disch := omega) only [iN_lit, iN_add, iN_sub, iN_mul, iN_an, iN_of hu]; exact iN_ti2 (by omega) (by omega)) (by omega) (by omega) (kJ.tr k2) (fun k z1 z2 => (k2b k z1 z2).trans (k46 k z1 z2)) t2 D2 (pTab_VT hVJ hn1 h8 hqq) ((pB_r (f := fun q => pTb tp n f (T + 1) q.1 q.2) hqq).symm.trans hX1)
      refine z_iload_n G dX5_readTabs_2 rfl ?_
      refine z_iconst G (v := 5) dX5_readTabs_3 (by decide) ?_
      refine z_icmp_gt G 36 dX5_readTabs_4 (by decide) (fun c => absurd c (by simp (disch := omega) only [iN_lit, iN_add, iN_sub, iN_mul, iN_an, iN_le, iN_lt, iN_eq, iN_of hu]; omega)) (fun _ => ?_)
      refine z_iload_n G dX5_readTabs_7 rfl ?_
      refine z_if_le G 21 dX5_readTabs_8 (by decide) (fun b8 => ?_) (fun b8 => ?_)
      · have hj0 : T = 0 := by simp (disch := omega) only [iN_lit, iN_add, iN_sub, iN_mul, iN_an, iN_le, iN_lt, iN_eq, iN_of hu] at b8; omega
        exact tail (fun z => by omega)
      · refine z_aload_n G dX5_readTabs_11 rfl ?_
        refine z_getI G fl_X5_42 rfl dX5_readTabs_12 (by assumption) ?_
        rw [tJ.2.1]
        refine z_iconst G (v := -1) dX5_readTabs_15 (by decide) ?_
        refine z_icmp_ne G 21 dX5_readTabs_16 (by decide) (fun b16 => ?_) (fun b16 => ?_)
        · exact tail (fun z => b16 z.2)
        · refine z_iconst G (v := 1) dX5_readTabs_19 (by decide) ?_
          have hj0 : 0 < T := by simp (disch := omega) only [iN_lit, iN_add, iN_sub, iN_mul, iN_an, iN_le, iN_lt, iN_eq, iN_of hu] at b8; omega
          exact z_zret G hq dX5_readTabs_20 rfl (h1 w (by rw [← hX]; show (if 0 < T ∧ tkT tp a = -1 then _ else _) = _; rw [if_pos ⟨hj0, b16⟩]) J T kJ k46 hj0 hT5 hVJ hDJ)
  refine z_iconst G (v := 0) dX5_readTabs_0 (by decide) ?_
  refine z_istore_n G dX5_readTabs_1 (Nat.le_of_ble_eq_true rfl) rfl ?_
  exact loop 6 0 a 0 I w rfl (by omega) (by omega) KP.rf (fun _ _ _ => rfl) hT hD hV hX
set_option maxHeartbeats 1000000 in
set_option maxRecDepth 20000 in
theorem k_X5_readTape {E : pmE} {d : Nat} {S : pmS} {I : pmI} {P : pmP} {R : Option Value → pmS → pmI → pmP → Prop} (hR : RdG S P) {tp : Nat → Int32} (hC : TC I tp) (h0 : ∀ e, pWeb tp = .inl e → ∀ J, FL I J e → R (some (.int 0)) S J P) (h1 : ∀ w n T, pWeb tp = .inr w → Vd w n T 0 0 → (∀ i, i < T → w (46 + 10 * i) = 1) → ∀ J, KP I J 27 → WR J 4 w n → DR J P 7 w T 0 → R (some (.int 1)) S J P) : pmX E (d + 5) 0 0 yX5_readTape [rr E 2] S I P R := by
  refine pm_of (by decide) cd_X5_readTape (by decide) (by decide) (Nat.le_of_ble_eq_true rfl) ?_
  intro C G hq
  obtain ⟨c1, c2, c3, c4, c5, c6, c7⟩ := id hR
  have c61 := c6.1
  have c71 := c7.1.1
  refine z_aload_n G dX5_readTape_0 rfl ?_
  refine z_getR G fl_X5_18 rfl dX5_readTape_1 (by assumption) (by assumption) ?_
  refine z_iconst G (v := 0) dX5_readTape_4 (by decide) ?_
  refine z_V G lk_X5_54 dX5_readTape_5 [_] rfl rfl rfl (Nat.le_of_ble_eq_true rfl) ⟨Nat.le_refl _, Nat.le_refl _⟩ c6.1 ?_
  refine k_X8_begin c6 (fun J1 f1 e1 e2 => ?_)
  refine z_aload_n G dX5_readTape_8 rfl ?_
  refine z_getR G fl_X5_25 rfl dX5_readTape_9 (by assumption) (by assumption) ?_
  refine z_V G lk_X5_58 dX5_readTape_12 [] rfl rfl rfl (Nat.le_of_ble_eq_true rfl) ⟨Nat.le_refl _, Nat.le_refl _⟩ c7.1.1 ?_
  refine k_X1_clear c7 (fun J2 g1 g2 g3 g4 g5 => ?_)
  refine z_aload_n G dX5_readTape_15 rfl ?_
  refine z_iconst G (v := 0) dX5_readTape_16 (by decide) ?_
  refine z_putI G fl_X5_48 ft_5_9 rfl rfl rfl dX5_readTape_17 (by assumption) ?_
  refine z_aload_n G dX5_readTape_20 rfl ?_
  have k3 : KP I (va_up J2 2 (va_up (J2 2) 9 0)) 27 := ⟨fun k hk => by rw [va_ne' (by omega), g1 k (by omega) (by omega)]; exact f1 k (by omega), by rw [va_ne' (by omega), g1 3 (by omega) (by omega)]; exact f1 3 (by omega), by rw [va_at' rfl, va_ne' (by omega), g1 2 (by omega) (by omega), f1 2 (by omega)], by rw [va_at' rfl, va_ne' (by omega), g1 2 (by omega) (by omega), f1 2 (by omega)]⟩
  refine z_V G lk_X5_61 dX5_readTape_21 [] rfl rfl rfl (Nat.le_of_ble_eq_true rfl) ⟨Nat.le_refl _, Nat.le_refl _⟩ (by assumption) ?_
  refine k_X5_advance hR (hC.kp k3) (a := 0) (by simp (disch := omega) only [va_at', va_ne', va_up_up]; rfl) (by omega) (fun J4 k4 _ _ t4 => ?_)
  have kI4 : KP I J4 27 := k3.tr (k4.mono (by omega))
  refine z_aload_n G dX5_readTape_24 rfl ?_
  refine z_V G lk_X5_64 dX5_readTape_25 [] rfl rfl rfl (Nat.le_of_ble_eq_true rfl) ⟨Nat.le_refl _, Nat.le_refl _⟩ (by assumption) ?_
  refine k_X5_readLaw hR (hC.kp kI4) t4 ?_ ?_
  · intro e he J5 hf5
    refine z_if_eq G 49 dX5_readTape_28 (by decide) (fun _ => ?_) (fun c => absurd c (by decide))
    refine z_iconst G (v := 0) dX5_readTape_49 (by decide) ?_
    exact z_zret G hq dX5_readTape_50 rfl (h0 e (pB_l he) J5 (kI4.fl (by omega) hf5))
  · intro q hqq J5 k5 s5 z5 t5
    refine z_if_eq G 49 dX5_readTape_28 (by decide) (fun c => absurd c (by decide)) (fun _ => ?_)
    refine z_aload_n G dX5_readTape_31 rfl ?_
    obtain ⟨q2, q8⟩ := pLaw_in hqq
    have kI5 : KP I J5 27 := kI4.tr (k5.mono (by omega))
    have hW5 : WR J5 4 (w00 q.2) q.2 := ⟨by rw [s5]; exact (va_at' rfl).symm, fun p hp => ⟨by rw [z5 p (by omega)]; unfold w00; rw [va_ne' (by omega)], fun j hj => by rw [show w00 q.2 (4 + 5 * p) = 0 from va_ne' (by omega)] at hj; simp only [Int32.reduceToInt] at hj; omega⟩⟩
    refine z_V G lk_X5_68 dX5_readTape_32 [] rfl rfl rfl (Nat.le_of_ble_eq_true rfl) ⟨Nat.le_refl _, Nat.le_refl _⟩ (by assumption) ?_
    refine k_X5_readPages hR (hC.kp kI5) t5 q8 hW5 (va_at' rfl) (fun e he => va_ne' (by omega)) rfl ?_ ?_
    · intro e he J6 hf6
      refine z_if_eq G 49 dX5_readTape_35 (by decide) (fun _ => ?_) (fun c => absurd c (by decide))
      refine z_iconst G (v := 0) dX5_readTape_49 (by decide) ?_
      exact z_zret G hq dX5_readTape_50 rfl (h0 e ((pB_r hqq).trans (pB_l he)) J6 (kI5.fl (by omega) hf6))
    · intro r hr J6 k6 t6 W6 z6 c6'
      refine z_if_eq G 49 dX5_readTape_35 (by decide) (fun c => absurd c (by decide)) (fun _ => ?_)
      refine z_aload_n G dX5_readTape_38 rfl ?_
      have hV6 := w00_VT q2 q8 hr
      have kI6 : KP I J6 27 := kI5.tr (k6.mono (by omega))
      have d6 : ∀ k, 7 ≤ k → k < 27 → J6 k = J2 k := fun k z1 z2 => by rw [k6.1 k (by omega), k5.1 k (by omega), k4.1 k (by omega)]; exact va_ne' (by omega)
      have hD6 : DR J6 P 7 r.2 0 0 := ⟨by rw [d6 7 (by omega) (by omega), g2, hV6.2.1]; rfl, by rw [d6 7 (by omega) (by omega), g3, hV6.2.2.1], by rw [d6 7 (by omega) (by omega), g4, hV6.2.2.2.1], fun i hi => absurd hi (by omega), fun i hi => absurd hi (by omega), fun p hp => by rw [d6 (7 + 3) (by omega) (by omega), g5 p hp, hV6.2.2.2.2.2.1 p hp]⟩
      refine z_V G lk_X5_71 dX5_readTape_39 [] rfl rfl rfl (Nat.le_of_ble_eq_true rfl) ⟨Nat.le_refl _, Nat.le_refl _⟩ (by assumption) ?_
      refine k_X5_readTabs hR (hC.kp kI6) t6 hD6 (W6.1.trans z6) (by omega) q8 hV6 rfl ?_ ?_
      · intro e he J7 hf7
        refine z_if_eq G 49 dX5_readTape_42 (by decide) (fun _ => ?_) (fun c => absurd c (by decide))
        refine z_iconst G (v := 0) dX5_readTape_49 (by decide) ?_
        exact z_zret G hq dX5_readTape_50 rfl (h0 e ((pB_r hqq).trans ((pB_r hr).trans he)) J7 (kI6.fl (by omega) hf7))
      · intro w9 hw9 J7 T9 k7 k7b hT1 hT5 V9 D9
        refine z_if_eq G 49 dX5_readTape_42 (by decide) (fun c => absurd c (by decide)) (fun _ => ?_)
        refine z_iconst G (v := 1) dX5_readTape_45 (by decide) ?_
        refine z_goto G 50 dX5_readTape_46 (by decide) ?_
        have hkp := pTb_keep 6 0 r.1 r.2 w9 hw9
        have hW9 : WR J7 4 w9 q.2 := (W6.congr (fun k z1 z2 => k7b k z1 (by omega))).congrW hV6.2.2.2.2.1 q8 (hkp 0 (by omega) (by omega)) (fun p j z1 z2 => hkp _ (by omega) (by omega))
        exact z_zret G hq dX5_readTape_50 rfl (h1 w9 q.2 T9 ((pB_r hqq).trans ((pB_r hr).trans hw9)) (V9.vd q2 q8 hT1 hT5) (fun i hi => (V9.2.2.2.2.2.2 i hi).2) J7 (kI6.tr k7) hW9 D9)
