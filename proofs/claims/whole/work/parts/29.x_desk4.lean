set_option maxHeartbeats 1000000 in
set_option maxRecDepth 20000 in
theorem k_X1_closeNow {E : pmE} {d : Nat} {S : pmS} {I : pmI} {P : pmP} {R : Option Value → pmS → pmI → pmP → Prop} {dk n T t c : Nat} {w : Nat → Int32} (hG : DG S P dk) (hD : DR I P dk w T c) (hV : Vd w n T t c) (h1 : 2 ≤ T → ∀ I' P', FrD I I' dk → FrP P P' dk → DG S P' dk → DR I' P' dk (closesF w T t c) (T - 1) (keepC w t c) → R (some (.int 1)) S I' P') (h0 : ¬ 2 ≤ T → R (some (.int 0)) S I P) : pmX E (d + 3) 0 0 yX1_closeNow [rr E dk] S I P R := by
  refine pm_of (by decide) cd_X1_closeNow (by decide) (by decide) (Nat.le_of_ble_eq_true rfl) ?_
  intro C G hq
  obtain ⟨⟨g1, g2, g3, g4, g5, g6, g7⟩, g8, g9, g10, g11, g12⟩ := id hG
  obtain ⟨v1, v2, v3, v4, v5, v6, v7, v8⟩ := id hV
  obtain ⟨d1, d2, d3, d4, d5, d6⟩ := id hD
  obtain ⟨tt, ht1, ht2, ht3, ht4⟩ := hG.row (show t < 5 by omega)
  have hTR := d4 t v3.2 tt ht1
  obtain ⟨s, p, hN, hpn⟩ := hV.nw
  have hnow : (I dk 4).toInt = (t : Int) := by rw [d2]; exact v3.1
  have hTI : (I dk 3).toInt = (T : Int) := by rw [d1]; exact v2.1
  have hsh : (I tt 4).toInt = (s : Int) := by rw [hTR.2.2.2.1, show 44 + 10 * t + 3 = 47 + 10 * t by omega]; exact hN.2.2.1
  have hs6 := hN.2.2.2.1
  obtain ⟨kd, hm, l, s2, u1, u2, u3, u4, u5, u6, u7, u8, u9, u10, u11⟩ := v6 t v3.2
  obtain rfl : s = s2 := by have := hN.2.2.1; rw [show 44 + 10 * t + 3 = 47 + 10 * t by omega] at u9; omega
  have hpg : I (tt + 1) s = w (48 + 10 * t + s) := by rw [hTR.2.2.2.2 s (by omega), show 44 + 10 * t + 4 + s = 48 + 10 * t + s by omega]
  have tail : ∀ (I1 : pmI) (P1 : pmP), 2 ≤ T → FrD I I1 dk → FrP P P1 dk → P1 (dk + 1) = P (dk + 1) → DG S P1 dk → DR I1 P1 dk (keepF w t c) T (keepC w t c) → pmZ E C 50 [some (rr E dk), none, none] [] S I1 P1 0 0 := by
    intro I1 P1 hT2 f1 f2 f3 hG1 hD1
    obtain ⟨⟨q1, q2, q3, q4, q5, q6, q7⟩, -⟩ := id hG1
    have hw1 : (I1 dk 3).toInt = (T : Int) := by rw [hD1.1, keep_off (by omega) (by omega)]; exact v2.1
    have hw2 : (I1 dk 4).toInt = (t : Int) := by rw [hD1.2.1, keep_off (by omega) (by omega)]; exact v3.1
    have htt1 : P1 (dk + 1) t = some tt := by rw [f3]; exact ht1
    have loop : ∀ (r k : Nat) (x : Int32), x.toInt = (k : Int) → t ≤ k → k + r = T - 1 → pmZ E C 65 [some (rr E dk), some (rr E tt), some (.int x)] [] S I1 (va_up P1 (dk + 1) (shL (P1 (dk + 1)) t k)) 0 0 := by
      intro r
      induction r with
      | zero =>
        intro k x hx hk hr
        obtain rfl : k = T - 1 := by omega
        refine z_iload_n G dX1_closeNow_65 rfl ?_
        refine z_iconst G (v := 1) dX1_closeNow_66 (by decide) ?_
        refine z_iadd G dX1_closeNow_67 ?_
        refine z_aload_n G dX1_closeNow_68 rfl ?_
        refine z_getI G fl_X1_24 rfl dX1_closeNow_69 (by assumption) ?_
        refine z_icmp_ge G 102 dX1_closeNow_72 (by decide) (fun _ => ?_) (fun c => absurd c (fun z => z (by simp (disch := omega) only [iN_lit, iN_add, iN_sub, iN_mul, iN_an, iN_le, iN_lt, iN_eq, iN_of hx, iN_of hw1]; omega)))
        refine z_aload_n G dX1_closeNow_102 rfl ?_
        refine z_dup G dX1_closeNow_103 rfl ?_
        refine z_getI G fl_X1_24 rfl dX1_closeNow_104 (by assumption) ?_
        refine z_iconst G (v := 1) dX1_closeNow_107 (by decide) ?_
        refine z_isub G dX1_closeNow_108 ?_
        refine z_top (y := iN (T - 1)) (by simp (disch := omega) only [iN_lit, iN_add, iN_sub, iN_mul, iN_an, iN_of hw1] <;> exact congrArg iN (by omega)) ?_
        refine z_putI G fl_X1_24 ft_1_3 rfl rfl rfl dX1_closeNow_109 (by assumption) ?_
        try simp (disch := omega) only [va_at', va_ne', va_up_up]
        refine z_aload_n G dX1_closeNow_112 rfl ?_
        refine z_getR G fl_X1_11 rfl dX1_closeNow_113 (by assumption) (by (try simp (disch := omega) only [va_ne']); assumption) ?_
        refine z_aload_n G dX1_closeNow_116 rfl ?_
        refine z_getI G fl_X1_24 rfl dX1_closeNow_117 (by assumption) ?_
        refine z_aload_n G dX1_closeNow_120 rfl ?_
        try simp (disch := omega) only [va_at', va_ne', va_up_up]
        refine z_aast G 5 (T - 1) rfl (ci := 7) rfl (by decide) (by decide) dX1_closeNow_121 (by assumption) (iN_ti (by omega)) (by omega) ht2.1 ?_
        refine z_aload_n G dX1_closeNow_122 rfl ?_
        refine z_aload_n G dX1_closeNow_123 rfl ?_
        refine z_getI G fl_X1_28 rfl dX1_closeNow_124 (by assumption) ?_
        try simp (disch := omega) only [va_at', va_ne', va_up_up]
        refine z_aload_n G dX1_closeNow_127 rfl ?_
        refine z_getI G fl_X1_24 rfl dX1_closeNow_128 (by assumption) ?_
        try simp (disch := omega) only [va_at', va_ne', va_up_up]
        refine z_iconst G (v := 1) dX1_closeNow_131 (by decide) ?_
        refine z_isub G dX1_closeNow_132 ?_
        try simp (disch := omega) only [va_at', va_ne', va_up_up]
        refine z_mmin G ml_X1_95 mn_s mm_i mn_c dX1_closeNow_133 rfl (Nat.le_of_ble_eq_true rfl) ⟨Nat.le_refl _, Nat.le_refl _⟩ ?_
        refine z_top (y := if t < T - 1 then iN t else iN (T - 2)) (by rw [iN_of hw2]; exact min_now v3.2 (by omega) hT2) ?_
        refine z_putI G fl_X1_28 ft_1_4 rfl rfl rfl dX1_closeNow_136 (by assumption) ?_
        try simp (disch := omega) only [va_at', va_ne', va_up_up]
        rw [← htt1, shL_end v3.2]
        refine z_iconst G (v := 1) dX1_closeNow_139 (by decide) ?_
        exact z_zret G hq dX1_closeNow_140 rfl (h1 hT2 _ _ (fun k hk => by rw [va_ne' (by omega)]; exact f1 k hk) (fun k k1 k2 => by rw [va_ne' k1]; exact f2 k k1 k2) (hG1.rotl v3.2 (by omega)) (hD1.gone hG1 hV hT2 rfl))
      | succ r ih =>
        intro k x hx hk hr
        obtain ⟨g, y1, y2, y3, y4⟩ := hG1.row (show k + 1 < 5 by omega)
        refine z_iload_n G dX1_closeNow_65 rfl ?_
        refine z_iconst G (v := 1) dX1_closeNow_66 (by decide) ?_
        refine z_iadd G dX1_closeNow_67 ?_
        refine z_aload_n G dX1_closeNow_68 rfl ?_
        refine z_getI G fl_X1_24 rfl dX1_closeNow_69 (by assumption) ?_
        refine z_icmp_ge G 102 dX1_closeNow_72 (by decide) (fun c => absurd c (by simp (disch := omega) only [iN_lit, iN_add, iN_sub, iN_mul, iN_an, iN_le, iN_lt, iN_eq, iN_of hx, iN_of hw1]; omega)) (fun _ => ?_)
        refine z_iload_n G dX1_closeNow_75 rfl ?_
        refine z_iconst G (v := 1) dX1_closeNow_76 (by decide) ?_
        refine z_iadd G dX1_closeNow_77 ?_
        refine z_iconst G (v := 5) dX1_closeNow_78 (by decide) ?_
        refine z_icmp_ge G 102 dX1_closeNow_79 (by decide) (fun c => absurd c (by simp (disch := omega) only [iN_lit, iN_add, iN_sub, iN_mul, iN_an, iN_le, iN_lt, iN_eq, iN_of hx]; omega)) (fun _ => ?_)
        refine z_aload_n G dX1_closeNow_82 rfl ?_
        refine z_getR G fl_X1_11 rfl dX1_closeNow_83 (by assumption) (by (try simp (disch := omega) only [va_ne']); assumption) ?_
        refine z_iload_n G dX1_closeNow_86 rfl ?_
        refine z_aload_n G dX1_closeNow_87 rfl ?_
        refine z_getR G fl_X1_11 rfl dX1_closeNow_88 (by assumption) (by (try simp (disch := omega) only [va_ne']); assumption) ?_
        refine z_iload_n G dX1_closeNow_91 rfl ?_
        refine z_iconst G (v := 1) dX1_closeNow_92 (by decide) ?_
        refine z_iadd G dX1_closeNow_93 ?_
        refine z_aald G 5 (k + 1) rfl (by decide) dX1_closeNow_94 (by assumption) (by simp (disch := omega) only [iN_lit, iN_add, iN_sub, iN_mul, iN_an, iN_of hx]; exact iN_ti2 (by omega) (by omega)) (by omega) (by rw [va_up_self, shL_off (by omega)]; exact y1) ?_
        refine z_aast G 5 (k) rfl (ci := 7) rfl (by decide) (by decide) dX1_closeNow_95 (by assumption) (hx) (by omega) y2.1 ?_
        refine z_iinc G (v := 1) dX1_closeNow_96 (by decide) rfl rfl ?_
        refine z_goto G 65 dX1_closeNow_99 (by decide) ?_
        refine z_eq rfl rfl rfl rfl ?_ (ih (k + 1) _ (by simp (disch := omega) only [iN_lit, iN_add, iN_sub, iN_mul, iN_an, iN_of hx]; exact iN_ti2 (by omega) (by omega)) (by omega) (by omega))
        rw [va_up_self, va_up_up, ← y1, shL_step hk]
    refine z_aload_n G dX1_closeNow_50 rfl ?_
    refine z_getR G fl_X1_11 rfl dX1_closeNow_51 (by assumption) (by assumption) ?_
    refine z_aload_n G dX1_closeNow_54 rfl ?_
    refine z_getI G fl_X1_28 rfl dX1_closeNow_55 (by assumption) ?_
    refine z_aald G 5 (t) rfl (by decide) dX1_closeNow_58 (by assumption) (hw2) (by omega) htt1 ?_
    refine z_astore_n G dX1_closeNow_59 (Nat.le_of_ble_eq_true rfl) rfl ?_
    refine z_aload_n G dX1_closeNow_60 rfl ?_
    refine z_getI G fl_X1_28 rfl dX1_closeNow_61 (by assumption) ?_
    refine z_istore_n G dX1_closeNow_64 (Nat.le_of_ble_eq_true rfl) rfl ?_
    refine z_eq rfl rfl rfl rfl ?_ (loop (T - 1 - t) t _ hw2 (Nat.le_refl _) (by omega))
    rw [shL_0, va_up_id]
  refine z_aload_n G dX1_closeNow_0 rfl ?_
  refine z_getI G fl_X1_24 rfl dX1_closeNow_1 (by assumption) ?_
  refine z_iconst G (v := 2) dX1_closeNow_4 (by decide) ?_
  refine z_icmp_lt G 19 dX1_closeNow_5 (by decide) (fun b5 => ?_) (fun b5 => ?_)
  · refine z_iconst G (v := 0) dX1_closeNow_19 (by decide) ?_
    exact z_zret G hq dX1_closeNow_20 rfl (h0 (by simp only [ti_lt, ti_le, Int32.reduceToInt, hTI] at b5; omega))
  · have hT2 : 2 ≤ T := by simp only [ti_lt, ti_le, Int32.reduceToInt, hTI] at b5; omega
    refine z_aload_n G dX1_closeNow_8 rfl ?_
    refine z_aload_n G dX1_closeNow_9 rfl ?_
    refine z_getI G fl_X1_28 rfl dX1_closeNow_10 (by assumption) ?_
    refine z_V G lk_X1_45 dX1_closeNow_13 [_] rfl rfl rfl (Nat.le_of_ble_eq_true rfl) ⟨Nat.le_refl _, Nat.le_refl _⟩ (by assumption) ?_
    refine k_X1_hasTab g1 hTI (by omega) (fun p2 q1 q2 => ?_) (fun q => absurd ⟨t, hnow, v3.2⟩ q)
    refine z_if_ne G 21 dX1_closeNow_16 (by decide) (fun _ => ?_) (fun c => absurd c (by decide))
    refine z_aload_n G dX1_closeNow_21 rfl ?_
    refine z_getR G fl_X1_11 rfl dX1_closeNow_22 (by assumption) (by assumption) ?_
    refine z_aload_n G dX1_closeNow_25 rfl ?_
    refine z_getI G fl_X1_28 rfl dX1_closeNow_26 (by assumption) ?_
    refine z_aald G 5 (t) rfl (by decide) dX1_closeNow_29 (by assumption) (hnow) (by omega) (by assumption) ?_
    refine z_iconst G (v := 4) dX1_closeNow_30 (by decide) ?_
    refine z_V G lk_X1_89 dX1_closeNow_31 [_] rfl rfl rfl (Nat.le_of_ble_eq_true rfl) ⟨Nat.le_refl _, Nat.le_refl _⟩ ht2.1 ?_
    refine k_X7_isOf ht2 (sd := kd) (by rw [hTR.1]; exact u1) u2 u3 ?_ ?_
    · intro hk
      refine z_if_ne G 50 dX1_closeNow_34 (by decide) (fun _ => ?_) (fun c => absurd c (by decide))
      have hge : ¬ w (44 + 10 * t) < 4 := by
        intro q
        unfold isK at hk
        rw [hTR.1] at hk
        rcases hk with hk | hk | hk | hk
        · exact absurd hk (by decide)
        · rw [← hk] at q; exact absurd q (by decide)
        · exact absurd hk.1 (by decide)
        · rw [hk.2] at q; exact absurd q (by decide)
      refine tail I P hT2 FrD.rf FrP.rf rfl hG ?_
      unfold keepF keepC
      rw [if_neg hge, if_neg hge]
      exact hD
    · intro hk
      refine z_if_ne G 50 dX1_closeNow_34 (by decide) (fun c => absurd c (by decide)) (fun _ => ?_)
      refine z_aload_n G dX1_closeNow_37 rfl ?_
      refine z_aload_n G dX1_closeNow_38 rfl ?_
      refine z_getR G fl_X1_11 rfl dX1_closeNow_39 (by assumption) (by assumption) ?_
      refine z_aload_n G dX1_closeNow_42 rfl ?_
      refine z_getI G fl_X1_28 rfl dX1_closeNow_43 (by assumption) ?_
      refine z_aald G 5 (t) rfl (by decide) dX1_closeNow_46 (by assumption) (hnow) (by omega) (by assumption) ?_
      have hlt : w (44 + 10 * t) < 4 := by
        have h45 : ¬ kd = 4 ∧ ¬ kd = 5 := ⟨fun e => hk (by unfold isK; rw [hTR.1]; exact Or.inr (Or.inl (by rw [iN_of u1, e]; rfl))), fun e => hk (by unfold isK; rw [hTR.1]; exact Or.inr (Or.inr (Or.inr ⟨rfl, by rw [iN_of u1, e]; rfl⟩)))⟩
        simp only [ti_lt, ti_le, Int32.reduceToInt, u1]; omega
      refine z_V G lk_X1_92 dX1_closeNow_47 [_] rfl rfl rfl (Nat.le_of_ble_eq_true rfl) ⟨Nat.le_refl _, Nat.le_refl _⟩ (by assumption) ?_
      refine k_X1_keepClosed hG hD hV ht1 hlt (fun I' P' m1 m2 m3 m4 m5 => ?_)
      exact tail I' P' hT2 m1 m2 m3 m4 m5
set_option maxHeartbeats 1000000 in
set_option maxRecDepth 20000 in
theorem k_X1_become {E : pmE} {d : Nat} {S : pmS} {I : pmI} {P : pmP} {R : Option Value → pmS → pmI → pmP → Prop} {dk du T c : Nat} {w : Nat → Int32} (hG : DG S P dk) (hG2 : DG S P du) (hdis : dk + 20 ≤ du ∨ du + 20 ≤ dk) (hD : DR I P du w T c) (hT : (w 1).toInt = (T : Int)) (hT5 : T ≤ 5) (hc : (w 3).toInt = (c : Int)) (hc3 : c ≤ 3) (hl : ∀ i, i < T → (w (44 + 10 * i + 2)).toInt ≤ 6) (hl2 : ∀ i, i < c → (w (94 + 10 * i + 2)).toInt ≤ 6) (h : ∀ I', FrD I I' dk → DR I' P dk w T c → R none S I' P) : pmX E (d + 2) 0 0 yX1_become [rr E dk, rr E du] S I P R := by
  refine pm_of (by decide) cd_X1_become (by decide) (by decide) (Nat.le_of_ble_eq_true rfl) ?_
  intro C G hq
  obtain ⟨⟨g1, g2, g3, g4, g5, g6, g7⟩, g8, g9, g10, g11, g12⟩ := id hG
  obtain ⟨⟨k1, k2, k3, k4, k5, k6, k7⟩, -⟩ := id hG2
  obtain ⟨d1, d2, d3, d4, d5, d6⟩ := id hD
  have loop2 : ∀ (r k : Nat) (x : Int32) (J : pmI), x.toInt = (k : Int) → k + r = c → FrD I J dk → J dk 3 = w 1 → J dk 4 = w 2 → J dk 5 = w 3 → (∀ i, i < T → ∀ t, P (dk + 1) i = some t → TR J t w (44 + 10 * i)) → (∀ i, i < k → ∀ t, P (dk + 2) i = some t → TR J t w (94 + 10 * i)) → pmZ E C 62 [some (rr E dk), some (rr E du), some (.int x)] [] S J P 0 0 := by
    intro r
    induction r with
    | zero =>
      intro k x J hx hr f1 e3 e4 e5 r1 r2
      obtain rfl : c = k := by omega
      have hcJ : (J dk 5).toInt = (c : Int) := by rw [e5]; exact hc
      refine z_iload_n G dX1_become_62 rfl ?_
      refine z_aload_n G dX1_become_63 rfl ?_
      refine z_getI G fl_X1_31 rfl dX1_become_64 (by assumption) ?_
      refine z_icmp_ge G 96 dX1_become_67 (by decide) (fun _ => ?_) (fun c => absurd c (fun z => z (by simp (disch := omega) only [iN_lit, iN_add, iN_sub, iN_mul, iN_an, iN_le, iN_lt, iN_eq, iN_of hx, iN_of hcJ]; omega)))
      refine z_aload_n G dX1_become_96 rfl ?_
      refine z_getR G fl_X1_20 rfl dX1_become_97 (by assumption) (by assumption) ?_
      refine z_iconst G (v := 0) dX1_become_100 (by decide) ?_
      refine z_aload_n G dX1_become_101 rfl ?_
      refine z_getR G fl_X1_20 rfl dX1_become_102 (by assumption) (by assumption) ?_
      refine z_iconst G (v := 0) dX1_become_105 (by decide) ?_
      refine z_bipush G (v := 8) dX1_become_106 (by decide) ?_
      refine z_copy G 0 0 8 ml_X1_39 ac_n ac_s ac_i dX1_become_108 rfl (Nat.le_of_ble_eq_true rfl) k7 g7 rfl rfl rfl (by omega) (by omega) ?_
      have hro : ∀ i t, i < 5 → P (dk + 1) i = some t → (va_up J (dk + 3) (va_cpy (J (du + 3)) (J (dk + 3)) 0 0 8)) t = J t ∧ (va_up J (dk + 3) (va_cpy (J (du + 3)) (J (dk + 3)) 0 0 8)) (t + 1) = J (t + 1) := fun i t hi ht => by obtain ⟨_, a, b⟩ := hG.row_in hi ht; exact ⟨va_ne' (by omega), va_ne' (by omega)⟩
      have hco : ∀ i t, i < 3 → P (dk + 2) i = some t → (va_up J (dk + 3) (va_cpy (J (du + 3)) (J (dk + 3)) 0 0 8)) t = J t ∧ (va_up J (dk + 3) (va_cpy (J (du + 3)) (J (dk + 3)) 0 0 8)) (t + 1) = J (t + 1) := fun i t hi ht => by obtain ⟨_, a, b⟩ := hG.cl_in hi ht; exact ⟨va_ne' (by omega), va_ne' (by omega)⟩
      exact z_vret G hq dX1_become_111 (h _ (fun k hk => by rw [va_ne' (by omega)]; exact f1 k hk) ⟨by rw [va_ne' (by omega)]; exact e3, by rw [va_ne' (by omega)]; exact e4, by rw [va_ne' (by omega)]; exact e5, fun i hi t ht => (r1 i hi t ht).congr (hro i t (by omega) ht).1 (hro i t (by omega) ht).2, fun i hi t ht => (r2 i hi t ht).congr (hco i t (by omega) ht).1 (hco i t (by omega) ht).2, fun p hp => by rw [va_at' rfl, cpy_in (by omega), f1 _ (by omega), Nat.zero_add, Nat.sub_zero]; exact d6 p hp⟩)
    | succ r ih =>
      intro k x J hx hr f1 e3 e4 e5 r1 r2
      have hcJ : (J dk 5).toInt = (c : Int) := by rw [e5]; exact hc
      obtain ⟨a, ha1, ha2, ha3, ha4⟩ := hG.cl (show k < 3 by omega)
      obtain ⟨b, hb1, hb2, hb3, hb4⟩ := hG2.cl (show k < 3 by omega)
      refine z_iload_n G dX1_become_62 rfl ?_
      refine z_aload_n G dX1_become_63 rfl ?_
      refine z_getI G fl_X1_31 rfl dX1_become_64 (by assumption) ?_
      refine z_icmp_ge G 96 dX1_become_67 (by decide) (fun c => absurd c (by simp (disch := omega) only [iN_lit, iN_add, iN_sub, iN_mul, iN_an, iN_le, iN_lt, iN_eq, iN_of hx, iN_of hcJ]; omega)) (fun _ => ?_)
      refine z_iload_n G dX1_become_70 rfl ?_
      refine z_iconst G (v := 3) dX1_become_71 (by decide) ?_
      refine z_icmp_ge G 96 dX1_become_72 (by decide) (fun c => absurd c (by simp (disch := omega) only [iN_lit, iN_add, iN_sub, iN_mul, iN_an, iN_le, iN_lt, iN_eq, iN_of hx]; omega)) (fun _ => ?_)
      refine z_aload_n G dX1_become_75 rfl ?_
      refine z_getR G fl_X1_17 rfl dX1_become_76 (by assumption) (by assumption) ?_
      refine z_iload_n G dX1_become_79 rfl ?_
      refine z_aald G 5 (k) rfl (by decide) dX1_become_80 (by assumption) (hx) (by omega) ha1 ?_
      refine z_aload_n G dX1_become_81 rfl ?_
      refine z_getR G fl_X1_17 rfl dX1_become_82 (by assumption) (by assumption) ?_
      refine z_iload_n G dX1_become_85 rfl ?_
      refine z_aald G 5 (k) rfl (by decide) dX1_become_86 (by assumption) (hx) (by omega) hb1 ?_
      refine z_V G lk_X1_35 dX1_become_87 [_] rfl rfl rfl (Nat.le_of_ble_eq_true rfl) ⟨Nat.le_refl _, Nat.le_refl _⟩ ha2.1 ?_
      refine k_X7_become ha2 hb2 (by omega) (fun J' m1 m2 m3 => ?_)
      refine z_iinc G (v := 1) dX1_become_90 (by decide) rfl rfl ?_
      refine z_goto G 62 dX1_become_93 (by decide) ?_
      refine ih (k + 1) _ J' (by simp (disch := omega) only [iN_lit, iN_add, iN_sub, iN_mul, iN_an, iN_of hx]; exact iN_ti2 (by omega) (by omega)) (by omega) (fun q hq => (m1 q (by omega) (by omega)).trans (f1 q hq)) (by rw [m1 _ (by omega) (by omega)]; exact e3) (by rw [m1 _ (by omega) (by omega)]; exact e4) (by rw [m1 _ (by omega) (by omega)]; exact e5) (fun i hi t ht => ?_) (fun i hi t ht => ?_)
      · obtain ⟨_, p1, p2⟩ := hG.row_in (by omega) ht; exact (r1 i hi t ht).congr (m1 _ (by omega) (by omega)) (m1 _ (by omega) (by omega))
      · by_cases hik : i = k
        · subst hik; cases ht.symm.trans ha1
          exact (d5 i (by omega) b hb1).copy (hl2 i (by omega)) (fun j a1 a2 => by rw [m2 j a1 a2, f1 _ (by omega)]) (fun j a1 => by rw [m3 j a1, f1 _ (by omega)])
        · have hap := hG.apartC (by omega) (by omega) hik ht ha1
          exact (r2 i (by omega) t ht).congr (m1 _ (by omega) (by omega)) (m1 _ (by omega) (by omega))
  have loop1 : ∀ (r k : Nat) (x : Int32) (J : pmI), x.toInt = (k : Int) → k + r = T → FrD I J dk → J dk 3 = w 1 → J dk 4 = w 2 → J dk 5 = w 3 → (∀ i, i < k → ∀ t, P (dk + 1) i = some t → TR J t w (44 + 10 * i)) → pmZ E C 26 [some (rr E dk), some (rr E du), some (.int x)] [] S J P 0 0 := by
    intro r
    induction r with
    | zero =>
      intro k x J hx hr f1 e3 e4 e5 r1
      obtain rfl : T = k := by omega
      have hcJ : (J dk 3).toInt = (T : Int) := by rw [e3]; exact hT
      refine z_iload_n G dX1_become_26 rfl ?_
      refine z_aload_n G dX1_become_27 rfl ?_
      refine z_getI G fl_X1_24 rfl dX1_become_28 (by assumption) ?_
      refine z_icmp_ge G 60 dX1_become_31 (by decide) (fun _ => ?_) (fun c => absurd c (fun z => z (by simp (disch := omega) only [iN_lit, iN_add, iN_sub, iN_mul, iN_an, iN_le, iN_lt, iN_eq, iN_of hx, iN_of hcJ]; omega)))
      refine z_iconst G (v := 0) dX1_become_60 (by decide) ?_
      refine z_istore_n G dX1_become_61 (Nat.le_of_ble_eq_true rfl) rfl ?_
      exact loop2 c 0 0 J rfl (by omega) f1 e3 e4 e5 r1 (fun i hi => absurd hi (by omega))
    | succ r ih =>
      intro k x J hx hr f1 e3 e4 e5 r1
      have hcJ : (J dk 3).toInt = (T : Int) := by rw [e3]; exact hT
      obtain ⟨a, ha1, ha2, ha3, ha4⟩ := hG.row (show k < 5 by omega)
      obtain ⟨b, hb1, hb2, hb3, hb4⟩ := hG2.row (show k < 5 by omega)
      refine z_iload_n G dX1_become_26 rfl ?_
      refine z_aload_n G dX1_become_27 rfl ?_
      refine z_getI G fl_X1_24 rfl dX1_become_28 (by assumption) ?_
      refine z_icmp_ge G 60 dX1_become_31 (by decide) (fun c => absurd c (by simp (disch := omega) only [iN_lit, iN_add, iN_sub, iN_mul, iN_an, iN_le, iN_lt, iN_eq, iN_of hx, iN_of hcJ]; omega)) (fun _ => ?_)
      refine z_iload_n G dX1_become_34 rfl ?_
      refine z_iconst G (v := 5) dX1_become_35 (by decide) ?_
      refine z_icmp_ge G 60 dX1_become_36 (by decide) (fun c => absurd c (by simp (disch := omega) only [iN_lit, iN_add, iN_sub, iN_mul, iN_an, iN_le, iN_lt, iN_eq, iN_of hx]; omega)) (fun _ => ?_)
      refine z_aload_n G dX1_become_39 rfl ?_
      refine z_getR G fl_X1_11 rfl dX1_become_40 (by assumption) (by assumption) ?_
      refine z_iload_n G dX1_become_43 rfl ?_
      refine z_aald G 5 (k) rfl (by decide) dX1_become_44 (by assumption) (hx) (by omega) ha1 ?_
      refine z_aload_n G dX1_become_45 rfl ?_
      refine z_getR G fl_X1_11 rfl dX1_become_46 (by assumption) (by assumption) ?_
      refine z_iload_n G dX1_become_49 rfl ?_
      refine z_aald G 5 (k) rfl (by decide) dX1_become_50 (by assumption) (hx) (by omega) hb1 ?_
      refine z_V G lk_X1_35 dX1_become_51 [_] rfl rfl rfl (Nat.le_of_ble_eq_true rfl) ⟨Nat.le_refl _, Nat.le_refl _⟩ ha2.1 ?_
      refine k_X7_become ha2 hb2 (by omega) (fun J' m1 m2 m3 => ?_)
      refine z_iinc G (v := 1) dX1_become_54 (by decide) rfl rfl ?_
      refine z_goto G 26 dX1_become_57 (by decide) ?_
      refine ih (k + 1) _ J' (by simp (disch := omega) only [iN_lit, iN_add, iN_sub, iN_mul, iN_an, iN_of hx]; exact iN_ti2 (by omega) (by omega)) (by omega) (fun q hq => (m1 q (by omega) (by omega)).trans (f1 q hq)) (by rw [m1 _ (by omega) (by omega)]; exact e3) (by rw [m1 _ (by omega) (by omega)]; exact e4) (by rw [m1 _ (by omega) (by omega)]; exact e5) (fun i hi t ht => ?_)
      by_cases hik : i = k
      · subst hik; cases ht.symm.trans ha1
        exact (d4 i (by omega) b hb1).copy (hl i (by omega)) (fun j a1 a2 => by rw [m2 j a1 a2, f1 _ (by omega)]) (fun j a1 => by rw [m3 j a1, f1 _ (by omega)])
      · have hap := hG.apart (by omega) (by omega) hik ht ha1
        exact (r1 i (by omega) t ht).congr (m1 _ (by omega) (by omega)) (m1 _ (by omega) (by omega))
  refine z_aload_n G dX1_become_0 rfl ?_
  refine z_aload_n G dX1_become_1 rfl ?_
  refine z_getI G fl_X1_24 rfl dX1_become_2 (by assumption) ?_
  try simp (disch := omega) only [va_at', va_ne', va_up_up]
  refine z_putI G fl_X1_24 ft_1_3 rfl rfl rfl dX1_become_5 (by assumption) ?_
  refine z_aload_n G dX1_become_8 rfl ?_
  refine z_aload_n G dX1_become_9 rfl ?_
  refine z_getI G fl_X1_28 rfl dX1_become_10 (by assumption) ?_
  try simp (disch := omega) only [va_at', va_ne', va_up_up]
  refine z_putI G fl_X1_28 ft_1_4 rfl rfl rfl dX1_become_13 (by assumption) ?_
  refine z_aload_n G dX1_become_16 rfl ?_
  refine z_aload_n G dX1_become_17 rfl ?_
  refine z_getI G fl_X1_31 rfl dX1_become_18 (by assumption) ?_
  try simp (disch := omega) only [va_at', va_ne', va_up_up]
  refine z_putI G fl_X1_31 ft_1_5 rfl rfl rfl dX1_become_21 (by assumption) ?_
  try simp (disch := omega) only [va_at', va_ne', va_up_up]
  refine z_iconst G (v := 0) dX1_become_24 (by decide) ?_
  refine z_istore_n G dX1_become_25 (Nat.le_of_ble_eq_true rfl) rfl ?_
  exact loop1 T 0 0 _ rfl (by omega) (fun k hk => va_ne' (by omega)) (by simp (disch := omega) only [va_at', va_ne', va_up_up]; exact d1) (by simp (disch := omega) only [va_at', va_ne', va_up_up]; exact d2) (by simp (disch := omega) only [va_at', va_ne', va_up_up]; exact d3) (fun i hi => absurd hi (by omega))
set_option maxHeartbeats 1000000 in
set_option maxRecDepth 20000 in
theorem k_X1_clear {E : pmE} {d : Nat} {S : pmS} {I : pmI} {P : pmP} {R : Option Value → pmS → pmI → pmP → Prop} {dk : Nat} (hG : DG S P dk) (h : ∀ I', (∀ k, k ≠ dk → k ≠ dk + 3 → I' k = I k) → I' dk 3 = 0 → I' dk 4 = 0 → I' dk 5 = 0 → (∀ p, p < 8 → I' (dk + 3) p = 0) → R none S I' P) : pmX E d 0 0 yX1_clear [rr E dk] S I P R := by
  refine pm_of (by decide) cd_X1_clear (by decide) (by decide) (Nat.le_of_ble_eq_true rfl) ?_
  intro C G hq
  obtain ⟨⟨g1, g2, g3, g4, g5, g6, g7⟩, g8, g9, g10, g11, g12⟩ := id hG
  have loop : ∀ (r k : Nat) (x : Int32) (J : pmI), x.toInt = (k : Int) → k + r = 8 → (∀ k, k ≠ dk → k ≠ dk + 3 → J k = I k) → J dk 3 = 0 → J dk 4 = 0 → J dk 5 = 0 → (∀ p, p < k → J (dk + 3) p = 0) → pmZ E C 17 [some (rr E dk), some (.int x)] [] S J P 0 0 := by
    intro r
    induction r with
    | zero =>
      intro k x J hx hr f1 e3 e4 e5 e6
      obtain rfl : k = 8 := by omega
      refine z_iload_n G dX1_clear_17 rfl ?_
      refine z_bipush G (v := 8) dX1_clear_18 (by decide) ?_
      refine z_icmp_ge G 36 dX1_clear_20 (by decide) (fun _ => ?_) (fun c => absurd c (fun z => z (by simp (disch := omega) only [iN_lit, iN_add, iN_sub, iN_mul, iN_an, iN_le, iN_lt, iN_eq, iN_of hx] <;> omega)))
      exact z_vret G hq dX1_clear_36 (h J f1 e3 e4 e5 e6)
    | succ r ih =>
      intro k x J hx hr f1 e3 e4 e5 e6
      refine z_iload_n G dX1_clear_17 rfl ?_
      refine z_bipush G (v := 8) dX1_clear_18 (by decide) ?_
      refine z_icmp_ge G 36 dX1_clear_20 (by decide) (fun c => absurd c (by simp (disch := omega) only [iN_lit, iN_add, iN_sub, iN_mul, iN_an, iN_le, iN_lt, iN_eq, iN_of hx]; omega)) (fun _ => ?_)
      refine z_aload_n G dX1_clear_23 rfl ?_
      refine z_getR G fl_X1_20 rfl dX1_clear_24 (by assumption) (by assumption) ?_
      refine z_iload_n G dX1_clear_27 rfl ?_
      refine z_iconst G (v := 0) dX1_clear_28 (by decide) ?_
      refine z_iast G (k) dX1_clear_29 (by assumption) (hx) (by omega) ?_
      refine z_iinc G (v := 1) dX1_clear_30 (by decide) rfl rfl ?_
      refine z_goto G 17 dX1_clear_33 (by decide) ?_
      refine ih (k + 1) _ _ (by simp (disch := omega) only [iN_lit, iN_add, iN_sub, iN_mul, iN_an, iN_of hx]; exact iN_ti2 (by omega) (by omega)) (by omega) (fun q q1 q2 => by rw [va_ne' q2]; exact f1 q q1 q2) (by rw [va_ne' (by omega)]; exact e3) (by rw [va_ne' (by omega)]; exact e4) (by rw [va_ne' (by omega)]; exact e5) (fun p hp => ?_)
      rw [va_up_self]
      by_cases hpk : p = k
      · rw [va_at' hpk]
      · rw [va_ne' hpk]; exact e6 p (by omega)
  refine z_aload_n G dX1_clear_0 rfl ?_
  refine z_iconst G (v := 0) dX1_clear_1 (by decide) ?_
  refine z_putI G fl_X1_24 ft_1_3 rfl rfl rfl dX1_clear_2 (by assumption) ?_
  refine z_aload_n G dX1_clear_5 rfl ?_
  refine z_iconst G (v := 0) dX1_clear_6 (by decide) ?_
  refine z_putI G fl_X1_28 ft_1_4 rfl rfl rfl dX1_clear_7 (by assumption) ?_
  refine z_aload_n G dX1_clear_10 rfl ?_
  refine z_iconst G (v := 0) dX1_clear_11 (by decide) ?_
  refine z_putI G fl_X1_31 ft_1_5 rfl rfl rfl dX1_clear_12 (by assumption) ?_
  refine z_iconst G (v := 0) dX1_clear_15 (by decide) ?_
  refine z_istore_n G dX1_clear_16 (Nat.le_of_ble_eq_true rfl) rfl ?_
  exact loop 8 0 0 _ rfl (by omega) (fun k k1 k2 => by simp (disch := omega) only [va_at', va_ne', va_up_up]) (by simp (disch := omega) only [va_at', va_ne', va_up_up]) (by simp (disch := omega) only [va_at', va_ne', va_up_up]) (by simp (disch := omega) only [va_at', va_ne', va_up_up]) (fun p hp => absurd hp (by omega))
