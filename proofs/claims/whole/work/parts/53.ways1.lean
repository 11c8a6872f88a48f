set_option maxHeartbeats 1000000 in
set_option maxRecDepth 20000 in
theorem k_X2_beginAmounts {E : pmE} {d : Nat} {S : pmS} {I : pmI} {P : pmP} {R : Option Value → pmS → pmI → pmP → Prop} (hFG : FG S P) {w : Nat → Int32} {n s : Nat} {b : Bool} (h : ∀ J, (∀ k, k ≠ 555 → k ≠ 576 → J k = I k) → (∀ q, q < 8 → J 555 q = amt w n b s 0 q) → R none S J P) (hs8 : s < 8) : pmX E d 0 0 yX2_beginAmounts [rr E 553, .int (iN s)] S I P R := by
  refine pm_of (by decide) cd_X2_beginAmounts (by decide) (by decide) (Nat.le_of_ble_eq_true rfl) ?_
  intro C G hq
  obtain ⟨f1, ⟨f2, f3, f4, f5, f6, f7, f8, f9⟩, f10, f11, f12, f13, f14, f15, f16, f17, f18⟩ := id hFG
  have loop : ∀ (r k : Nat) (u : Int32) (J : pmI), u.toInt = (k : Int) → k + r = 8 → (∀ k, k ≠ 555 → k ≠ 576 → J k = I k) → (∀ q, q < k → J 555 q = amt w n b s 0 q) → pmZ E C 2 [some (rr E 553), some (.int (iN s)), some (.int u)] [] S J P 0 0 := by
    intro r
    induction r with
    | zero =>
      intro k u J hu hr hJ hA
      obtain rfl : k = 8 := by omega
      refine z_iload_n G dX2_beginAmounts_2 rfl ?_
      refine z_bipush G (v := 8) dX2_beginAmounts_3 (by decide) ?_
      refine z_icmp_ge G 30 dX2_beginAmounts_5 (by decide) (fun _ => ?_) (fun c => absurd c (fun z => z (by simp (disch := omega) only [iN_lit, iN_add, iN_sub, iN_mul, iN_an, iN_le, iN_lt, iN_eq, iN_of hu] <;> omega)))
      exact z_vret G hq dX2_beginAmounts_30 (h J hJ hA)
    | succ r ih =>
      intro k u J hu hr hJ hA
      refine z_iload_n G dX2_beginAmounts_2 rfl ?_
      refine z_bipush G (v := 8) dX2_beginAmounts_3 (by decide) ?_
      refine z_icmp_ge G 30 dX2_beginAmounts_5 (by decide) (fun c => absurd c (by simp (disch := omega) only [iN_lit, iN_add, iN_sub, iN_mul, iN_an, iN_le, iN_lt, iN_eq, iN_of hu]; omega)) (fun _ => ?_)
      refine z_aload_n G dX2_beginAmounts_8 rfl ?_
      refine z_getR G fl_X2_15 rfl dX2_beginAmounts_9 (by assumption) (by assumption) ?_
      refine z_iload_n G dX2_beginAmounts_12 rfl ?_
      refine z_iload_n G dX2_beginAmounts_13 rfl ?_
      refine z_iload_n G dX2_beginAmounts_14 rfl ?_
      refine z_icmp_ne G 22 dX2_beginAmounts_15 (by decide) (fun b15 => ?_) (fun b15 => ?_)
      · refine z_iconst G (v := 0) dX2_beginAmounts_22 (by decide) ?_
        refine z_iast G (k) dX2_beginAmounts_23 (by assumption) (hu) (by omega) ?_
        refine z_iinc G (v := 1) dX2_beginAmounts_24 (by decide) rfl rfl ?_
        refine z_goto G 2 dX2_beginAmounts_27 (by decide) ?_
        refine ih (k + 1) _ _ (by simp (disch := omega) only [iN_lit, iN_add, iN_sub, iN_mul, iN_an, iN_of hu]; exact iN_ti2 (by omega) (by omega)) (by omega) (fun q a b => (va_ne' a).trans (hJ q a b)) (fun q hq => ?_)
        rw [va_at' rfl]
        by_cases e : q = k
        · subst e; rw [va_at' rfl]; exact (if_neg (fun z => b15 (by rw [iN_of hu, z]))).symm
        · rw [va_ne' e]; exact hA q (by omega)
      · refine z_iconst G (v := 1) dX2_beginAmounts_18 (by decide) ?_
        refine z_goto G 23 dX2_beginAmounts_19 (by decide) ?_
        refine z_iast G (k) dX2_beginAmounts_23 (by assumption) (hu) (by omega) ?_
        refine z_iinc G (v := 1) dX2_beginAmounts_24 (by decide) rfl rfl ?_
        refine z_goto G 2 dX2_beginAmounts_27 (by decide) ?_
        refine ih (k + 1) _ _ (by simp (disch := omega) only [iN_lit, iN_add, iN_sub, iN_mul, iN_an, iN_of hu]; exact iN_ti2 (by omega) (by omega)) (by omega) (fun q a b => (va_ne' a).trans (hJ q a b)) (fun q hq => ?_)
        rw [va_at' rfl]
        by_cases e : q = k
        · subst e; rw [va_at' rfl]; exact (if_pos (by have := congrArg Int32.toInt b15; rw [hu, iN_ti (by omega)] at this; omega)).symm
        · rw [va_ne' e]; exact hA q (by omega)
  refine z_iconst G (v := 0) dX2_beginAmounts_0 (by decide) ?_
  refine z_istore_n G dX2_beginAmounts_1 (Nat.le_of_ble_eq_true rfl) rfl ?_
  exact loop 8 0 0 I rfl rfl (fun _ _ _ => rfl) (fun q hq => absurd hq (by omega))
set_option maxHeartbeats 1000000 in
set_option maxRecDepth 20000 in
theorem k_X2_spreadAmounts {E : pmE} {d : Nat} {S : pmS} {I : pmI} {P : pmP} {R : Option Value → pmS → pmI → pmP → Prop} (hFG : FG S P) (hWG : WebG S P 27) {n : Nat} {w : Nat → Int32} (hW : WR I 27 w n) (hn : (w 0).toInt = (n : Int)) (hn8 : n ≤ 8) (hv : VL w n) {b : Bool} {A : Nat → Int32} (hA : ∀ q, q < 8 → I 555 q = A q) (h : ∀ J, (∀ k, k ≠ 555 → k ≠ 576 → J k = I k) → (∀ q, q < 8 → J 555 q = spP w b A n q) → R none S J P) : pmX E (d + 3) 0 0 yX2_spreadAmounts [rr E 553, rr E 27, .int (bI b)] S I P R := by
  refine pm_of (by decide) cd_X2_spreadAmounts (by decide) (by decide) (Nat.le_of_ble_eq_true rfl) ?_
  intro C G hq
  obtain ⟨f1, ⟨f2, f3, f4, f5, f6, f7, f8, f9⟩, f10, f11, f12, f13, f14, f15, f16, f17, f18⟩ := id hFG
  have hsz : (I 27 2).toInt = (n : Int) := by rw [hW.1]; exact hn
  have loop1 : ∀ (r p : Nat) (u : Int32) (J : pmI) (o4 o5 o6 o7 : Option Value), u.toInt = (p : Int) → p + r = n → (∀ k, k ≠ 576 → J k = I k) → (∀ q, q < 8 → J 576 q = spP w b A p q) → pmZ E C 23 [some (rr E 553), some (rr E 27), some (.int (bI b)), some (.int u), o4, o5, o6, o7] [] S J P 0 0 := by
    intro r
    induction r with
    | zero =>
      intro p u J o4 o5 o6 o7 hu hr hJ hB
      obtain rfl : p = n := by omega
      refine z_iload_n G dX2_spreadAmounts_23 rfl ?_
      refine z_aload_n G dX2_spreadAmounts_24 rfl ?_
      refine z_getI G fl_X2_92 rfl dX2_spreadAmounts_25 hWG.1 ?_
      rw [hJ 27 (by omega)]
      refine z_icmp_ge G 128 dX2_spreadAmounts_28 (by decide) (fun _ => ?_) (fun c => absurd c (fun z => z (by simp (disch := omega) only [iN_lit, iN_add, iN_sub, iN_mul, iN_an, iN_le, iN_lt, iN_eq, iN_of hu, iN_of hsz] <;> omega)))
      refine z_aload_n G dX2_spreadAmounts_128 rfl ?_
      refine z_getR G fl_X2_25 rfl dX2_spreadAmounts_129 (by assumption) (by assumption) ?_
      refine z_iconst G (v := 0) dX2_spreadAmounts_132 (by decide) ?_
      refine z_aload_n G dX2_spreadAmounts_133 rfl ?_
      refine z_getR G fl_X2_15 rfl dX2_spreadAmounts_134 (by assumption) (by assumption) ?_
      refine z_iconst G (v := 0) dX2_spreadAmounts_137 (by decide) ?_
      refine z_bipush G (v := 8) dX2_spreadAmounts_138 (by decide) ?_
      refine z_copy G 0 0 8 ml_X2_106 ac_n ac_s ac_i dX2_spreadAmounts_140 rfl (Nat.le_of_ble_eq_true rfl) f13 f11 rfl rfl rfl (by omega) (by omega) ?_
      exact z_vret G hq dX2_spreadAmounts_143 (h _ (fun q a b => (va_ne' a).trans (hJ q b)) (fun q hq => by rw [va_at' rfl, cpy_in (by omega)]; simpa using hB q hq))
    | succ r ih =>
      intro p u J o4 o5 o6 o7 hu hr hJ hB
      have hpn : p < n := by omega
      obtain ⟨c, c1, c2, c3, c4⟩ := hv p hpn
      have ec : tn (w (4 + 5 * p)) = c := by unfold tn; omega
      have loop2 : ∀ (r2 j : Nat) (u6 : Int32) (J : pmI) (o7 : Option Value), u6.toInt = (j : Int) → j + r2 = c → (∀ k, k ≠ 576 → J k = I k) → (∀ q, q < 8 → J 576 q = spJ w (eachI w b A p) p j (spP w b A p) q) → pmZ E C 79 [some (rr E 553), some (rr E 27), some (.int (bI b)), some (.int u), some (.int (w (4 + 5 * p))), some (.int (eachI w b A p)), some (.int u6), o7] [] S J P 0 0 := by
        intro r2
        induction r2 with
        | zero =>
          intro j u6 J o7 hu6 hr2 hJ hB
          obtain rfl : j = c := by omega
          refine z_iload G dX2_spreadAmounts_79 rfl ?_
          refine z_iload G dX2_spreadAmounts_81 rfl ?_
          refine z_icmp_ge G 122 dX2_spreadAmounts_83 (by decide) (fun _ => ?_) (fun c => absurd c (fun z => z (by simp (disch := omega) only [iN_lit, iN_add, iN_sub, iN_mul, iN_an, iN_le, iN_lt, iN_eq, iN_of hu6, iN_of c1] <;> omega)))
          refine z_iinc G (v := 1) dX2_spreadAmounts_122 (by decide) rfl rfl ?_
          refine z_goto G 23 dX2_spreadAmounts_125 (by decide) ?_
          refine ih (p + 1) _ J _ _ _ _ (by simp (disch := omega) only [iN_lit, iN_add, iN_sub, iN_mul, iN_an, iN_of hu]; exact iN_ti2 (by omega) (by omega)) (by omega) hJ (fun q hq => ?_)
          rw [hB q hq, ← ec]; rfl
        | succ r2 ih2 =>
          intro j u6 J o7 hu6 hr2 hJ hB
          have hWJ : WR J 27 w n := hW.congr (fun k _ _ => hJ k (by omega))
          obtain ⟨tq, t1, t2⟩ := c4 j (by omega)
          have et : tn (w (5 + 5 * p + j)) = tq := by unfold tn; omega
          refine z_iload G dX2_spreadAmounts_79 rfl ?_
          refine z_iload G dX2_spreadAmounts_81 rfl ?_
          refine z_icmp_ge G 122 dX2_spreadAmounts_83 (by decide) (fun c => absurd c (by simp (disch := omega) only [iN_lit, iN_add, iN_sub, iN_mul, iN_an, iN_le, iN_lt, iN_eq, iN_of hu6, iN_of c1]; omega)) (fun _ => ?_)
          refine z_aload_n G dX2_spreadAmounts_86 rfl ?_
          refine z_iload_n G dX2_spreadAmounts_87 rfl ?_
          refine z_iload G dX2_spreadAmounts_88 rfl ?_
          refine z_V G lk_X2_99 dX2_spreadAmounts_90 [_, _] rfl rfl rfl (Nat.le_of_ble_eq_true rfl) ⟨Nat.le_refl _, Nat.le_refl _⟩ hWG.1 ?_
          refine k_X8_target hWG hWJ hn hn8 hu hpn c1 c3 (fun jn e1 e2 => ?_) (fun z => absurd ⟨by omega, by omega⟩ z)
          obtain rfl : jn = j := by omega
          rw [iN_of t1]
          refine z_istore G dX2_spreadAmounts_93 (Nat.le_of_ble_eq_true rfl) rfl ?_
          refine z_aload_n G dX2_spreadAmounts_95 rfl ?_
          refine z_iload G dX2_spreadAmounts_96 rfl ?_
          refine z_V G lk_X2_103 dX2_spreadAmounts_98 [_] rfl rfl rfl (Nat.le_of_ble_eq_true rfl) ⟨Nat.le_refl _, Nat.le_refl _⟩ hWG.1 ?_
          refine k_X8_hasPage hWG.1 (by rw [hJ 27 (by omega)]; exact hsz) (fun _ _ _ => ?_) (fun z => absurd ⟨tq, iN_ti (by omega), t2⟩ z)
          refine z_if_eq G 116 dX2_spreadAmounts_101 (by decide) (fun c => absurd c (by decide)) (fun _ => ?_)
          refine z_aload_n G dX2_spreadAmounts_104 rfl ?_
          refine z_getR G fl_X2_25 rfl dX2_spreadAmounts_105 (by assumption) (by assumption) ?_
          refine z_iload G dX2_spreadAmounts_108 rfl ?_
          refine z_dup2 G dX2_spreadAmounts_110 rfl rfl ?_
          refine z_iald G (tq) dX2_spreadAmounts_111 (by assumption) (iN_ti (by omega)) (by omega) ?_
          refine z_iload G dX2_spreadAmounts_112 rfl ?_
          refine z_iadd G dX2_spreadAmounts_114 ?_
          refine z_iast G (tq) dX2_spreadAmounts_115 (by assumption) (iN_ti (by omega)) (by omega) ?_
          refine z_iinc G (v := 1) dX2_spreadAmounts_116 (by decide) rfl rfl ?_
          refine z_goto G 79 dX2_spreadAmounts_119 (by decide) ?_
          refine ih2 (jn + 1) _ _ _ (by simp (disch := omega) only [iN_lit, iN_add, iN_sub, iN_mul, iN_an, iN_of hu6]; exact iN_ti2 (by omega) (by omega)) (by omega) (fun q a => (va_ne' a).trans (hJ q a)) (fun q hq => ?_)
          rw [va_at' rfl]
          show _ = va_up (spJ w (eachI w b A p) p jn (spP w b A p)) (tn (w (5 + 5 * p + jn))) _ q
          rw [et]
          by_cases e : q = tq
          · subst e; rw [va_at' rfl, va_at' rfl, hB q hq]
          · rw [va_ne' e, va_ne' e]; exact hB q hq
      refine z_iload_n G dX2_spreadAmounts_23 rfl ?_
      refine z_aload_n G dX2_spreadAmounts_24 rfl ?_
      refine z_getI G fl_X2_92 rfl dX2_spreadAmounts_25 hWG.1 ?_
      rw [hJ 27 (by omega)]
      refine z_icmp_ge G 128 dX2_spreadAmounts_28 (by decide) (fun c => absurd c (by simp (disch := omega) only [iN_lit, iN_add, iN_sub, iN_mul, iN_an, iN_le, iN_lt, iN_eq, iN_of hu, iN_of hsz]; omega)) (fun _ => ?_)
      refine z_iload_n G dX2_spreadAmounts_31 rfl ?_
      refine z_bipush G (v := 8) dX2_spreadAmounts_32 (by decide) ?_
      refine z_icmp_ge G 128 dX2_spreadAmounts_34 (by decide) (fun c => absurd c (by simp (disch := omega) only [iN_lit, iN_add, iN_sub, iN_mul, iN_an, iN_le, iN_lt, iN_eq, iN_of hu]; omega)) (fun _ => ?_)
      refine z_aload_n G dX2_spreadAmounts_37 rfl ?_
      refine z_iload_n G dX2_spreadAmounts_38 rfl ?_
      refine z_V G lk_X2_95 dX2_spreadAmounts_39 [_] rfl rfl rfl (Nat.le_of_ble_eq_true rfl) ⟨Nat.le_refl _, Nat.le_refl _⟩ hWG.1 ?_
      refine k_X8_linksOf hWG (hW.congr (fun k _ _ => hJ k (by omega))) hn hn8 hu hpn ?_
      refine z_istore G dX2_spreadAmounts_42 (Nat.le_of_ble_eq_true rfl) rfl ?_
      refine z_iload_n G dX2_spreadAmounts_44 rfl ?_
      refine z_if_eq G 68 dX2_spreadAmounts_45 (by decide) (fun b45 => ?_) (fun b45 => ?_)
      · have hbf : b = false := by cases b; rfl; exact absurd b45 (by decide)
        refine z_aload_n G dX2_spreadAmounts_68 rfl ?_
        refine z_getR G fl_X2_15 rfl dX2_spreadAmounts_69 (by assumption) (by assumption) ?_
        refine z_iload_n G dX2_spreadAmounts_72 rfl ?_
        refine z_iald G (p) dX2_spreadAmounts_73 (by assumption) (hu) (by omega) ?_
        refine z_top (y := eachI w b A p) (by rw [hJ 555 (by omega), hA p (by omega), hbf]; rfl) ?_
        refine z_istore G dX2_spreadAmounts_74 (Nat.le_of_ble_eq_true rfl) rfl ?_
        refine z_iconst G (v := 0) dX2_spreadAmounts_76 (by decide) ?_
        refine z_istore G dX2_spreadAmounts_77 (Nat.le_of_ble_eq_true rfl) rfl ?_
        exact loop2 c 0 0 J _ rfl (by omega) hJ hB
      · have hbt : b = true := by cases b; exact absurd rfl b45; rfl
        refine z_iload G dX2_spreadAmounts_48 rfl ?_
        refine z_if_le G 68 dX2_spreadAmounts_50 (by decide) (fun c => absurd c (by simp (disch := omega) only [iN_lit, iN_add, iN_sub, iN_mul, iN_an, iN_le, iN_lt, iN_eq, iN_of c1]; omega)) (fun _ => ?_)
        refine z_aload_n G dX2_spreadAmounts_53 rfl ?_
        refine z_getR G fl_X2_15 rfl dX2_spreadAmounts_54 (by assumption) (by assumption) ?_
        refine z_iload_n G dX2_spreadAmounts_57 rfl ?_
        refine z_iald G (p) dX2_spreadAmounts_58 (by assumption) (hu) (by omega) ?_
        refine z_bipush G (v := 6) dX2_spreadAmounts_59 (by decide) ?_
        refine z_iload G dX2_spreadAmounts_61 rfl ?_
        refine z_idiv G dX2_spreadAmounts_63 (by simp (disch := omega) only [iN_lit, iN_add, iN_sub, iN_mul, iN_an, iN_le, iN_lt, iN_eq, iN_of c1]; omega) ?_
        refine z_imul G dX2_spreadAmounts_64 ?_
        refine z_goto G 74 dX2_spreadAmounts_65 (by decide) ?_
        refine z_top (y := eachI w b A p) (by rw [hJ 555 (by omega), hA p (by omega), hbt]; rfl) ?_
        refine z_istore G dX2_spreadAmounts_74 (Nat.le_of_ble_eq_true rfl) rfl ?_
        refine z_iconst G (v := 0) dX2_spreadAmounts_76 (by decide) ?_
        refine z_istore G dX2_spreadAmounts_77 (Nat.le_of_ble_eq_true rfl) rfl ?_
        exact loop2 c 0 0 J _ rfl (by omega) hJ hB
  have loop0 : ∀ (r k : Nat) (u : Int32) (J : pmI), u.toInt = (k : Int) → k + r = 8 → (∀ k, k ≠ 576 → J k = I k) → (∀ q, q < k → J 576 q = 0) → pmZ E C 2 [some (rr E 553), some (rr E 27), some (.int (bI b)), some (.int u), none, none, none, none] [] S J P 0 0 := by
    intro r
    induction r with
    | zero =>
      intro k u J hu hr hJ hB
      obtain rfl : k = 8 := by omega
      refine z_iload_n G dX2_spreadAmounts_2 rfl ?_
      refine z_bipush G (v := 8) dX2_spreadAmounts_3 (by decide) ?_
      refine z_icmp_ge G 21 dX2_spreadAmounts_5 (by decide) (fun _ => ?_) (fun c => absurd c (fun z => z (by simp (disch := omega) only [iN_lit, iN_add, iN_sub, iN_mul, iN_an, iN_le, iN_lt, iN_eq, iN_of hu] <;> omega)))
      refine z_iconst G (v := 0) dX2_spreadAmounts_21 (by decide) ?_
      refine z_istore_n G dX2_spreadAmounts_22 (Nat.le_of_ble_eq_true rfl) rfl ?_
      exact loop1 n 0 0 J _ _ _ _ rfl (by omega) hJ hB
    | succ r ih =>
      intro k u J hu hr hJ hB
      refine z_iload_n G dX2_spreadAmounts_2 rfl ?_
      refine z_bipush G (v := 8) dX2_spreadAmounts_3 (by decide) ?_
      refine z_icmp_ge G 21 dX2_spreadAmounts_5 (by decide) (fun c => absurd c (by simp (disch := omega) only [iN_lit, iN_add, iN_sub, iN_mul, iN_an, iN_le, iN_lt, iN_eq, iN_of hu]; omega)) (fun _ => ?_)
      refine z_aload_n G dX2_spreadAmounts_8 rfl ?_
      refine z_getR G fl_X2_25 rfl dX2_spreadAmounts_9 (by assumption) (by assumption) ?_
      refine z_iload_n G dX2_spreadAmounts_12 rfl ?_
      refine z_iconst G (v := 0) dX2_spreadAmounts_13 (by decide) ?_
      refine z_iast G (k) dX2_spreadAmounts_14 (by assumption) (hu) (by omega) ?_
      refine z_iinc G (v := 1) dX2_spreadAmounts_15 (by decide) rfl rfl ?_
      refine z_goto G 2 dX2_spreadAmounts_18 (by decide) ?_
      refine ih (k + 1) _ _ (by simp (disch := omega) only [iN_lit, iN_add, iN_sub, iN_mul, iN_an, iN_of hu]; exact iN_ti2 (by omega) (by omega)) (by omega) (fun q a => (va_ne' a).trans (hJ q a)) (fun q hq => ?_)
      rw [va_at' rfl]
      by_cases e : q = k
      · subst e; rw [va_at' rfl]
      · rw [va_ne' e]; exact hB q (by omega)
  refine z_iconst G (v := 0) dX2_spreadAmounts_0 (by decide) ?_
  refine z_istore_n G dX2_spreadAmounts_1 (Nat.le_of_ble_eq_true rfl) rfl ?_
  exact loop0 8 0 0 I rfl rfl (fun _ _ => rfl) (fun q hq => absurd hq (by omega))
set_option maxHeartbeats 1000000 in
set_option maxRecDepth 20000 in
theorem k_X2_countWays {E : pmE} {d : Nat} {S : pmS} {I : pmI} {P : pmP} {R : Option Value → pmS → pmI → pmP → Prop} (hFG : FG S P) (hWG : WebG S P 27) {n : Nat} {w : Nat → Int32} (hW : WR I 27 w n) (hn : (w 0).toInt = (n : Int)) (hn8 : n ≤ 8) (hv : VL w n) {s k : Nat} {x : Int32} (hs8 : s < 8) (hk : x.toInt = (k : Int)) (hk12 : k ≤ 12) (h : ∀ J, (∀ k, k ≠ 555 → k ≠ 576 → J k = I k) → (∀ q, q < 8 → J 555 q = amt w n false s k q) → R none S J P) : pmX E (d + 4) 0 0 yX2_countWays [rr E 553, rr E 27, .int (iN s), .int x] S I P R := by
  refine pm_of (by decide) cd_X2_countWays (by decide) (by decide) (Nat.le_of_ble_eq_true rfl) ?_
  intro C G hq
  obtain ⟨f1, ⟨f2, f3, f4, f5, f6, f7, f8, f9⟩, f10, f11, f12, f13, f14, f15, f16, f17, f18⟩ := id hFG
  have loop : ∀ (r y : Nat) (u : Int32) (J : pmI), u.toInt = (y : Int) → y + r = k → (∀ k, k ≠ 555 → k ≠ 576 → J k = I k) → (∀ q, q < 8 → J 555 q = amt w n false s y q) → pmZ E C 8 [some (rr E 553), some (rr E 27), some (.int (iN s)), some (.int x), some (.int u)] [] S J P 0 0 := by
    intro r
    induction r with
    | zero =>
      intro y u J hu hr hJ hB
      obtain rfl : y = k := by omega
      refine z_iload G dX2_countWays_8 rfl ?_
      refine z_iload_n G dX2_countWays_10 rfl ?_
      refine z_icmp_ge G 26 dX2_countWays_11 (by decide) (fun _ => ?_) (fun c => absurd c (fun z => z (by simp (disch := omega) only [iN_lit, iN_add, iN_sub, iN_mul, iN_an, iN_le, iN_lt, iN_eq, iN_of hu, iN_of hk] <;> omega)))
      exact z_vret G hq dX2_countWays_26 (h J hJ hB)
    | succ r ih =>
      intro y u J hu hr hJ hB
      refine z_iload G dX2_countWays_8 rfl ?_
      refine z_iload_n G dX2_countWays_10 rfl ?_
      refine z_icmp_ge G 26 dX2_countWays_11 (by decide) (fun c => absurd c (by simp (disch := omega) only [iN_lit, iN_add, iN_sub, iN_mul, iN_an, iN_le, iN_lt, iN_eq, iN_of hu, iN_of hk]; omega)) (fun _ => ?_)
      refine z_aload_n G dX2_countWays_14 rfl ?_
      refine z_aload_n G dX2_countWays_15 rfl ?_
      refine z_iconst G (v := 0) dX2_countWays_16 (by decide) ?_
      refine z_V G lk_X2_88 dX2_countWays_17 [_, _] rfl rfl rfl (Nat.le_of_ble_eq_true rfl) ⟨Nat.le_refl _, Nat.le_refl _⟩ f1 ?_
      refine k_X2_spreadAmounts (b := false) hFG hWG (hW.congr (fun k _ _ => hJ k (by omega) (by omega))) hn hn8 hv hB (fun J2 hJ2 hB2 => ?_)
      refine z_iinc G (v := 1) dX2_countWays_20 (by decide) rfl rfl ?_
      refine z_goto G 8 dX2_countWays_23 (by decide) ?_
      exact ih (y + 1) _ J2 (by simp (disch := omega) only [iN_lit, iN_add, iN_sub, iN_mul, iN_an, iN_of hu]; exact iN_ti2 (by omega) (by omega)) (by omega) (fun q a b => (hJ2 q a b).trans (hJ q a b)) hB2
  refine z_aload_n G dX2_countWays_0 rfl ?_
  refine z_iload_n G dX2_countWays_1 rfl ?_
  refine z_V G lk_X2_84 dX2_countWays_2 [_] rfl rfl rfl (Nat.le_of_ble_eq_true rfl) ⟨Nat.le_refl _, Nat.le_refl _⟩ f1 ?_
  refine k_X2_beginAmounts (w := w) (n := n) (b := false) hFG (fun J hJ hB => ?_) hs8
  refine z_iconst G (v := 0) dX2_countWays_5 (by decide) ?_
  refine z_istore G dX2_countWays_6 (Nat.le_of_ble_eq_true rfl) rfl ?_
  exact loop k 0 0 J rfl (by omega) hJ hB
set_option maxHeartbeats 1000000 in
set_option maxRecDepth 20000 in
theorem k_X2_weighWays {E : pmE} {d : Nat} {S : pmS} {I : pmI} {P : pmP} {R : Option Value → pmS → pmI → pmP → Prop} (hFG : FG S P) (hWG : WebG S P 27) {n : Nat} {w : Nat → Int32} (hW : WR I 27 w n) (hn : (w 0).toInt = (n : Int)) (hn8 : n ≤ 8) (hv : VL w n) {s k : Nat} {x : Int32} (hs8 : s < 8) (hk : x.toInt = (k : Int)) (hk12 : k ≤ 12) (h : ∀ J, (∀ k, k ≠ 555 → k ≠ 576 → J k = I k) → (∀ q, q < 8 → J 555 q = amt w n true s k q) → R (some (.int (powI k))) S J P) : pmX E (d + 4) 0 0 yX2_weighWays [rr E 553, rr E 27, .int (iN s), .int x] S I P R := by
  refine pm_of (by decide) cd_X2_weighWays (by decide) (by decide) (Nat.le_of_ble_eq_true rfl) ?_
  intro C G hq
  obtain ⟨f1, ⟨f2, f3, f4, f5, f6, f7, f8, f9⟩, f10, f11, f12, f13, f14, f15, f16, f17, f18⟩ := id hFG
  have loop : ∀ (r y : Nat) (u : Int32) (J : pmI), u.toInt = (y : Int) → y + r = k → (∀ k, k ≠ 555 → k ≠ 576 → J k = I k) → (∀ q, q < 8 → J 555 q = amt w n true s y q) → pmZ E C 11 [some (rr E 553), some (rr E 27), some (.int (iN s)), some (.int x), some (.int (powI y)), some (.int u)] [] S J P 0 0 := by
    intro r
    induction r with
    | zero =>
      intro y u J hu hr hJ hB
      obtain rfl : y = k := by omega
      refine z_iload G dX2_weighWays_11 rfl ?_
      refine z_iload_n G dX2_weighWays_13 rfl ?_
      refine z_icmp_ge G 36 dX2_weighWays_14 (by decide) (fun _ => ?_) (fun c => absurd c (fun z => z (by simp (disch := omega) only [iN_lit, iN_add, iN_sub, iN_mul, iN_an, iN_le, iN_lt, iN_eq, iN_of hu, iN_of hk] <;> omega)))
      refine z_iload G dX2_weighWays_36 rfl ?_
      exact z_iret G hq dX2_weighWays_38 (h J hJ hB)
    | succ r ih =>
      intro y u J hu hr hJ hB
      refine z_iload G dX2_weighWays_11 rfl ?_
      refine z_iload_n G dX2_weighWays_13 rfl ?_
      refine z_icmp_ge G 36 dX2_weighWays_14 (by decide) (fun c => absurd c (by simp (disch := omega) only [iN_lit, iN_add, iN_sub, iN_mul, iN_an, iN_le, iN_lt, iN_eq, iN_of hu, iN_of hk]; omega)) (fun _ => ?_)
      refine z_aload_n G dX2_weighWays_17 rfl ?_
      refine z_aload_n G dX2_weighWays_18 rfl ?_
      refine z_iconst G (v := 1) dX2_weighWays_19 (by decide) ?_
      refine z_V G lk_X2_88 dX2_weighWays_20 [_, _] rfl rfl rfl (Nat.le_of_ble_eq_true rfl) ⟨Nat.le_refl _, Nat.le_refl _⟩ f1 ?_
      refine k_X2_spreadAmounts (b := true) hFG hWG (hW.congr (fun k _ _ => hJ k (by omega) (by omega))) hn hn8 hv hB (fun J2 hJ2 hB2 => ?_)
      refine z_iload G dX2_weighWays_23 rfl ?_
      refine z_bipush G (v := 6) dX2_weighWays_25 (by decide) ?_
      refine z_imul G dX2_weighWays_27 ?_
      refine z_istore G dX2_weighWays_28 (Nat.le_of_ble_eq_true rfl) rfl ?_
      refine z_iinc G (v := 1) dX2_weighWays_30 (by decide) rfl rfl ?_
      refine z_goto G 11 dX2_weighWays_33 (by decide) ?_
      exact ih (y + 1) _ J2 (by simp (disch := omega) only [iN_lit, iN_add, iN_sub, iN_mul, iN_an, iN_of hu]; exact iN_ti2 (by omega) (by omega)) (by omega) (fun q a b => (hJ2 q a b).trans (hJ q a b)) hB2
  refine z_aload_n G dX2_weighWays_0 rfl ?_
  refine z_iload_n G dX2_weighWays_1 rfl ?_
  refine z_V G lk_X2_84 dX2_weighWays_2 [_] rfl rfl rfl (Nat.le_of_ble_eq_true rfl) ⟨Nat.le_refl _, Nat.le_refl _⟩ f1 ?_
  refine k_X2_beginAmounts (w := w) (n := n) (b := true) hFG (fun J hJ hB => ?_) hs8
  refine z_iconst G (v := 1) dX2_weighWays_5 (by decide) ?_
  refine z_istore G dX2_weighWays_6 (Nat.le_of_ble_eq_true rfl) rfl ?_
  refine z_iconst G (v := 0) dX2_weighWays_8 (by decide) ?_
  refine z_istore G dX2_weighWays_9 (Nat.le_of_ble_eq_true rfl) rfl ?_
  exact loop k 0 0 J rfl (by omega) hJ hB
set_option maxHeartbeats 1000000 in
set_option maxRecDepth 20000 in
theorem k_X9_ways {E : pmE} {d : Nat} {S : pmS} {I : pmI} {P : pmP} {R : Option Value → pmS → pmI → pmP → Prop} (hX : XG S P) {n T t c : Nat} {w : Nat → Int32} (hD : DR I P 30 w T c) (hV : Vd w n T t c) (hW : WR I 27 w n) {page x : Int32} (hb : (¬ ∃ q k : Nat, page.toInt = (q : Int) ∧ q < n ∧ x.toInt = (k : Int) ∧ k ≤ 12) → R (some (.int (-1000001))) S I P) (h : ∀ (J : pmI) (q k s p : Nat), (∀ k, k ≠ 555 → k ≠ 576 → J k = I k) → page.toInt = (q : Int) → q < n → x.toInt = (k : Int) → k ≤ 12 → Nw w t s p → R (some (.int (amt w n false p k q))) S J P) : pmX E (d + 5) 0 0 yX9_ways [rr E 0, .int page, .int x] S I P R := by
  refine pm_of (by decide) cd_X9_ways (by decide) (by decide) (Nat.le_of_ble_eq_true rfl) ?_
  intro C G hq
  obtain ⟨⟨a0, a1, a2, a3, a4, a5, a6, a7, a8⟩, hRG, hRdG, hWG, hDG, ⟨z1, z2, z3, z4⟩, hIG, hFG, hAG⟩ := id hX
  obtain ⟨v1, v2, v3, v4, v5, v6, v7, v8⟩ := id hV
  obtain ⟨f1, ⟨f2, f3, f4, f5, f6, f7, f8, f9⟩, f10, f11, f12, f13, f14, f15, f16, f17, f18⟩ := id hFG
  obtain ⟨s, p, hN, hpn⟩ := hV.nw
  refine z_aload_n G dX9_ways_0 rfl ?_
  refine z_getR G fl_X9_25 rfl dX9_ways_1 (by assumption) (by assumption) ?_
  refine z_iload_n G dX9_ways_4 rfl ?_
  refine z_V G lk_X9_179 dX9_ways_5 [_] rfl rfl rfl (Nat.le_of_ble_eq_true rfl) ⟨Nat.le_refl _, Nat.le_refl _⟩ hWG.1 ?_
  refine k_X8_hasPage hWG.1 (by rw [hW.1]; exact v1.1) ?_ ?_
  · intro q hq1 hq2
    refine z_if_eq G 21 dX9_ways_8 (by decide) (fun c => absurd c (by decide)) (fun _ => ?_)
    refine z_iload_n G dX9_ways_11 rfl ?_
    refine z_if_lt G 21 dX9_ways_12 (by decide) (fun b12 => ?_) (fun b12 => ?_)
    · refine z_ldc G ct_X9_73 dX9_ways_21 ?_
      exact z_iret G hq dX9_ways_23 (hb (fun ⟨q, k, _, _, q1, q2⟩ => by simp only [ti_lt, ti_le, Int32.reduceToInt] at *; omega))
    · refine z_iload_n G dX9_ways_15 rfl ?_
      refine z_bipush G (v := 12) dX9_ways_16 (by decide) ?_
      refine z_icmp_le G 24 dX9_ways_18 (by decide) (fun b18 => ?_) (fun b18 => ?_)
      · obtain ⟨k, hk1, hk2⟩ : ∃ k : Nat, x.toInt = (k : Int) ∧ k ≤ 12 := ⟨x.toInt.toNat, by simp only [ti_lt, ti_le, Int32.reduceToInt] at *; omega, by simp only [ti_lt, ti_le, Int32.reduceToInt] at *; omega⟩
        refine z_aload_n G dX9_ways_24 rfl ?_
        refine z_getR G fl_X9_52 rfl dX9_ways_25 (by assumption) (by assumption) ?_
        refine z_aload_n G dX9_ways_28 rfl ?_
        refine z_getR G fl_X9_25 rfl dX9_ways_29 (by assumption) (by assumption) ?_
        refine z_aload_n G dX9_ways_32 rfl ?_
        refine z_getR G fl_X9_32 rfl dX9_ways_33 (by assumption) (by assumption) ?_
        refine z_V G lk_X9_160 dX9_ways_36 [] rfl rfl rfl (Nat.le_of_ble_eq_true rfl) ⟨Nat.le_refl _, Nat.le_refl _⟩ hDG.1.1 ?_
        refine k_X1_shownPage hDG hD hV hN ?_
        rw [iN_of hN.2.2.2.2.1]
        refine z_iload_n G dX9_ways_39 rfl ?_
        refine z_V G lk_X9_242 dX9_ways_40 [_, _, _] rfl rfl rfl (Nat.le_of_ble_eq_true rfl) ⟨Nat.le_refl _, Nat.le_refl _⟩ f1 ?_
        refine k_X2_countWays hFG hWG hW v1.1 v1.2.2 v5 (by omega) hk1 hk2 (fun J hJ hB => ?_)
        refine z_aload_n G dX9_ways_43 rfl ?_
        refine z_getR G fl_X9_52 rfl dX9_ways_44 (by assumption) (by assumption) ?_
        refine z_getR G fl_X9_246 rfl dX9_ways_47 (by assumption) (by assumption) ?_
        refine z_iload_n G dX9_ways_50 rfl ?_
        refine z_iald G (q) dX9_ways_51 f11 (hq1) (by omega) ?_
        exact z_iret G hq dX9_ways_52 (by rw [hB q (by omega)]; exact h J q k s p hJ hq1 hq2 hk1 hk2 hN)
      · refine z_ldc G ct_X9_73 dX9_ways_21 ?_
        exact z_iret G hq dX9_ways_23 (hb (fun ⟨q, k, _, _, q1, q2⟩ => by simp only [ti_lt, ti_le, Int32.reduceToInt] at *; omega))
  · intro hno
    refine z_if_eq G 21 dX9_ways_8 (by decide) (fun _ => ?_) (fun c => absurd c (by decide))
    refine z_ldc G ct_X9_73 dX9_ways_21 ?_
    exact z_iret G hq dX9_ways_23 (hb (fun ⟨q, k, q1, q2, _⟩ => hno ⟨q, q1, q2⟩))
set_option maxHeartbeats 1000000 in
set_option maxRecDepth 20000 in
theorem k_X9_ways0 {E : pmE} {d : Nat} {S : pmS} {I : pmI} {P : pmP} {R : Option Value → pmS → pmI → pmP → Prop} (hX : XG S P) (hn : I 27 2 = 0) {page x : Int32} (h : R (some (.int (-1000001))) S I P) : pmX E (d + 3) 0 0 yX9_ways [rr E 0, .int page, .int x] S I P R := by
  refine pm_of (by decide) cd_X9_ways (by decide) (by decide) (Nat.le_of_ble_eq_true rfl) ?_
  intro C G hq
  obtain ⟨⟨a0, a1, a2, a3, a4, a5, a6, a7, a8⟩, hRG, hRdG, hWG, hDG, ⟨z1, z2, z3, z4⟩, hIG, hFG, hAG⟩ := id hX
  refine z_aload_n G dX9_ways_0 rfl ?_
  refine z_getR G fl_X9_25 rfl dX9_ways_1 (by assumption) (by assumption) ?_
  refine z_iload_n G dX9_ways_4 rfl ?_
  refine z_V G lk_X9_179 dX9_ways_5 [_] rfl rfl rfl (Nat.le_of_ble_eq_true rfl) ⟨Nat.le_refl _, Nat.le_refl _⟩ hWG.1 ?_
  refine k_X8_hasPage hWG.1 (n := 0) (by rw [hn]; rfl) (fun p _ q => absurd q (by omega)) (fun _ => ?_)
  refine z_if_eq G 21 dX9_ways_8 (by decide) (fun _ => ?_) (fun c => absurd c (by decide))
  refine z_ldc G ct_X9_73 dX9_ways_21 ?_
  exact z_iret G hq dX9_ways_23 (h)
set_option maxHeartbeats 1000000 in
set_option maxRecDepth 20000 in
theorem k_X10_ways0 {E : pmE} {d : Nat} {S : pmS} {I : pmI} {P : pmP} {R : Option Value → pmS → pmI → pmP → Prop} {m : Nat} (hM : MG S P m) (hn : I (m + 6) 0 = 0) {page x : Int32} (h : R (some (.int (-1000001))) S I P) : pmX E (d + 3) 0 0 yX10_ways [rr E m, .int page, .int x] S I P R := by
  refine pm_of (by decide) cd_X10_ways (by decide) (by decide) (Nat.le_of_ble_eq_true rfl) ?_
  intro C G hq
  obtain ⟨g0, ⟨r0, r1, r2, r3, r4, r5, r6, r7, r8, r9, r10, r11, r12, r13, r14⟩, ⟨s1, s2, s3, s4, s5, s6, s7, s8, s9, s10, s11, s12, s13, s14, s15⟩⟩ := id hM
  refine z_aload_n G dX10_ways_0 rfl ?_
  refine z_iload_n G dX10_ways_1 rfl ?_
  refine z_V G lk_X10_205 dX10_ways_2 [_] rfl rfl rfl (Nat.le_of_ble_eq_true rfl) ⟨Nat.le_refl _, Nat.le_refl _⟩ (by assumption) ?_
  refine k_X10_isPage hM (n := 0) (by rw [hn]; rfl) (by omega) (fun k _ q => absurd q (by omega)) (fun _ => ?_)
  refine z_if_eq G 18 dX10_ways_5 (by decide) (fun _ => ?_) (fun c => absurd c (by decide))
  refine z_ldc G ct_X10_70 dX10_ways_18 ?_
  exact z_iret G hq dX10_ways_20 (h)
set_option maxHeartbeats 1000000 in
set_option maxRecDepth 20000 in
theorem k_X9_chance0 {E : pmE} {d : Nat} {S : pmS} {I : pmI} {P : pmP} {R : Option Value → pmS → pmI → pmP → Prop} (hX : XG S P) (hn : I 27 2 = 0) {page x what : Int32} (h : R (some (.int (-1000001))) S I P) : pmX E (d + 3) 0 0 yX9_chance [rr E 0, .int page, .int x, .int what] S I P R := by
  refine pm_of (by decide) cd_X9_chance (by decide) (by decide) (Nat.le_of_ble_eq_true rfl) ?_
  intro C G hq
  obtain ⟨⟨a0, a1, a2, a3, a4, a5, a6, a7, a8⟩, hRG, hRdG, hWG, hDG, ⟨z1, z2, z3, z4⟩, hIG, hFG, hAG⟩ := id hX
  refine z_aload_n G dX9_chance_0 rfl ?_
  refine z_getR G fl_X9_25 rfl dX9_chance_1 (by assumption) (by assumption) ?_
  refine z_iload_n G dX9_chance_4 rfl ?_
  refine z_V G lk_X9_179 dX9_chance_5 [_] rfl rfl rfl (Nat.le_of_ble_eq_true rfl) ⟨Nat.le_refl _, Nat.le_refl _⟩ hWG.1 ?_
  refine k_X8_hasPage hWG.1 (n := 0) (by rw [hn]; rfl) (fun p _ q => absurd q (by omega)) (fun _ => ?_)
  refine z_if_eq G 30 dX9_chance_8 (by decide) (fun _ => ?_) (fun c => absurd c (by decide))
  refine z_ldc G ct_X9_73 dX9_chance_30 ?_
  exact z_iret G hq dX9_chance_32 (h)
set_option maxHeartbeats 1000000 in
set_option maxRecDepth 20000 in
theorem k_X10_chance0 {E : pmE} {d : Nat} {S : pmS} {I : pmI} {P : pmP} {R : Option Value → pmS → pmI → pmP → Prop} {m : Nat} (hM : MG S P m) (hn : I (m + 6) 0 = 0) {page x what : Int32} (h : R (some (.int (-1000001))) S I P) : pmX E (d + 3) 0 0 yX10_chance [rr E m, .int page, .int x, .int what] S I P R := by
  refine pm_of (by decide) cd_X10_chance (by decide) (by decide) (Nat.le_of_ble_eq_true rfl) ?_
  intro C G hq
  obtain ⟨g0, ⟨r0, r1, r2, r3, r4, r5, r6, r7, r8, r9, r10, r11, r12, r13, r14⟩, ⟨s1, s2, s3, s4, s5, s6, s7, s8, s9, s10, s11, s12, s13, s14, s15⟩⟩ := id hM
  refine z_aload_n G dX10_chance_0 rfl ?_
  refine z_iload_n G dX10_chance_1 rfl ?_
  refine z_V G lk_X10_205 dX10_chance_2 [_] rfl rfl rfl (Nat.le_of_ble_eq_true rfl) ⟨Nat.le_refl _, Nat.le_refl _⟩ (by assumption) ?_
  refine k_X10_isPage hM (n := 0) (by rw [hn]; rfl) (by omega) (fun k _ q => absurd q (by omega)) (fun _ => ?_)
  refine z_if_eq G 27 dX10_chance_5 (by decide) (fun _ => ?_) (fun c => absurd c (by decide))
  refine z_ldc G ct_X10_70 dX10_chance_27 ?_
  exact z_iret G hq dX10_chance_29 (h)
set_option maxHeartbeats 1000000 in
set_option maxRecDepth 20000 in
theorem k_X9_far0 {E : pmE} {d : Nat} {S : pmS} {I : pmI} {P : pmP} {R : Option Value → pmS → pmI → pmP → Prop} (hX : XG S P) (hn : I 27 2 = 0) {page x : Int32} (h : R (some (.int (-1000001))) S I P) : pmX E (d + 3) 0 0 yX9_far [rr E 0, .int page, .int x] S I P R := by
  refine pm_of (by decide) cd_X9_far (by decide) (by decide) (Nat.le_of_ble_eq_true rfl) ?_
  intro C G hq
  obtain ⟨⟨a0, a1, a2, a3, a4, a5, a6, a7, a8⟩, hRG, hRdG, hWG, hDG, ⟨z1, z2, z3, z4⟩, hIG, hFG, hAG⟩ := id hX
  refine z_aload_n G dX9_far_0 rfl ?_
  refine z_getR G fl_X9_25 rfl dX9_far_1 (by assumption) (by assumption) ?_
  refine z_iload_n G dX9_far_4 rfl ?_
  refine z_V G lk_X9_179 dX9_far_5 [_] rfl rfl rfl (Nat.le_of_ble_eq_true rfl) ⟨Nat.le_refl _, Nat.le_refl _⟩ hWG.1 ?_
  refine k_X8_hasPage hWG.1 (n := 0) (by rw [hn]; rfl) (fun p _ q => absurd q (by omega)) (fun _ => ?_)
  refine z_if_eq G 22 dX9_far_8 (by decide) (fun _ => ?_) (fun c => absurd c (by decide))
  refine z_ldc G ct_X9_73 dX9_far_22 ?_
  exact z_iret G hq dX9_far_24 (h)
set_option maxHeartbeats 1000000 in
set_option maxRecDepth 20000 in
theorem k_X10_far0 {E : pmE} {d : Nat} {S : pmS} {I : pmI} {P : pmP} {R : Option Value → pmS → pmI → pmP → Prop} {m : Nat} (hM : MG S P m) (hn : I (m + 6) 0 = 0) {page x : Int32} (h : R (some (.int (-1000001))) S I P) : pmX E (d + 3) 0 0 yX10_far [rr E m, .int page, .int x] S I P R := by
  refine pm_of (by decide) cd_X10_far (by decide) (by decide) (Nat.le_of_ble_eq_true rfl) ?_
  intro C G hq
  obtain ⟨g0, ⟨r0, r1, r2, r3, r4, r5, r6, r7, r8, r9, r10, r11, r12, r13, r14⟩, ⟨s1, s2, s3, s4, s5, s6, s7, s8, s9, s10, s11, s12, s13, s14, s15⟩⟩ := id hM
  refine z_aload_n G dX10_far_0 rfl ?_
  refine z_iload_n G dX10_far_1 rfl ?_
  refine z_V G lk_X10_205 dX10_far_2 [_] rfl rfl rfl (Nat.le_of_ble_eq_true rfl) ⟨Nat.le_refl _, Nat.le_refl _⟩ (by assumption) ?_
  refine k_X10_isPage hM (n := 0) (by rw [hn]; rfl) (by omega) (fun k _ q => absurd q (by omega)) (fun _ => ?_)
  refine z_if_eq G 16 dX10_far_5 (by decide) (fun _ => ?_) (fun c => absurd c (by decide))
  refine z_ldc G ct_X10_70 dX10_far_16 ?_
  exact z_iret G hq dX10_far_18 (h)
set_option maxHeartbeats 1000000 in
set_option maxRecDepth 20000 in
theorem k_X9_round0 {E : pmE} {d : Nat} {S : pmS} {I : pmI} {P : pmP} {R : Option Value → pmS → pmI → pmP → Prop} (hX : XG S P) (hn : I 27 2 = 0) {page : Int32} (h : R (some (.int (-1000001))) S I P) : pmX E (d + 3) 0 0 yX9_round [rr E 0, .int page] S I P R := by
  refine pm_of (by decide) cd_X9_round (by decide) (by decide) (Nat.le_of_ble_eq_true rfl) ?_
  intro C G hq
  obtain ⟨⟨a0, a1, a2, a3, a4, a5, a6, a7, a8⟩, hRG, hRdG, hWG, hDG, ⟨z1, z2, z3, z4⟩, hIG, hFG, hAG⟩ := id hX
  refine z_aload_n G dX9_round_0 rfl ?_
  refine z_getR G fl_X9_25 rfl dX9_round_1 (by assumption) (by assumption) ?_
  refine z_iload_n G dX9_round_4 rfl ?_
  refine z_V G lk_X9_179 dX9_round_5 [_] rfl rfl rfl (Nat.le_of_ble_eq_true rfl) ⟨Nat.le_refl _, Nat.le_refl _⟩ hWG.1 ?_
  refine k_X8_hasPage hWG.1 (n := 0) (by rw [hn]; rfl) (fun p _ q => absurd q (by omega)) (fun _ => ?_)
  refine z_if_eq G 22 dX9_round_8 (by decide) (fun _ => ?_) (fun c => absurd c (by decide))
  refine z_ldc G ct_X9_73 dX9_round_22 ?_
  exact z_iret G hq dX9_round_24 (h)
set_option maxHeartbeats 1000000 in
set_option maxRecDepth 20000 in
theorem k_X10_round0 {E : pmE} {d : Nat} {S : pmS} {I : pmI} {P : pmP} {R : Option Value → pmS → pmI → pmP → Prop} {m : Nat} (hM : MG S P m) (hn : I (m + 6) 0 = 0) {page : Int32} (h : R (some (.int (-1000001))) S I P) : pmX E (d + 3) 0 0 yX10_round [rr E m, .int page] S I P R := by
  refine pm_of (by decide) cd_X10_round (by decide) (by decide) (Nat.le_of_ble_eq_true rfl) ?_
  intro C G hq
  obtain ⟨g0, ⟨r0, r1, r2, r3, r4, r5, r6, r7, r8, r9, r10, r11, r12, r13, r14⟩, ⟨s1, s2, s3, s4, s5, s6, s7, s8, s9, s10, s11, s12, s13, s14, s15⟩⟩ := id hM
  refine z_aload_n G dX10_round_0 rfl ?_
  refine z_iload_n G dX10_round_1 rfl ?_
  refine z_V G lk_X10_205 dX10_round_2 [_] rfl rfl rfl (Nat.le_of_ble_eq_true rfl) ⟨Nat.le_refl _, Nat.le_refl _⟩ (by assumption) ?_
  refine k_X10_isPage hM (n := 0) (by rw [hn]; rfl) (by omega) (fun k _ q => absurd q (by omega)) (fun _ => ?_)
  refine z_if_ne G 11 dX10_round_5 (by decide) (fun c => absurd c (by decide)) (fun _ => ?_)
  refine z_ldc G ct_X10_70 dX10_round_8 ?_
  exact z_iret G hq dX10_round_10 (h)
set_option maxHeartbeats 1000000 in
set_option maxRecDepth 20000 in
theorem k_X9_share0 {E : pmE} {d : Nat} {S : pmS} {I : pmI} {P : pmP} {R : Option Value → pmS → pmI → pmP → Prop} (hX : XG S P) (hn : I 27 2 = 0) {page x : Int32} (h : R (some (.int (-1000001))) S I P) : pmX E (d + 3) 0 0 yX9_share [rr E 0, .int page, .int x] S I P R := by
  refine pm_of (by decide) cd_X9_share (by decide) (by decide) (Nat.le_of_ble_eq_true rfl) ?_
  intro C G hq
  obtain ⟨⟨a0, a1, a2, a3, a4, a5, a6, a7, a8⟩, hRG, hRdG, hWG, hDG, ⟨z1, z2, z3, z4⟩, hIG, hFG, hAG⟩ := id hX
  refine z_aload_n G dX9_share_0 rfl ?_
  refine z_getR G fl_X9_25 rfl dX9_share_1 (by assumption) (by assumption) ?_
  refine z_iload_n G dX9_share_4 rfl ?_
  refine z_V G lk_X9_179 dX9_share_5 [_] rfl rfl rfl (Nat.le_of_ble_eq_true rfl) ⟨Nat.le_refl _, Nat.le_refl _⟩ hWG.1 ?_
  refine k_X8_hasPage hWG.1 (n := 0) (by rw [hn]; rfl) (fun p _ q => absurd q (by omega)) (fun _ => ?_)
  refine z_if_eq G 22 dX9_share_8 (by decide) (fun _ => ?_) (fun c => absurd c (by decide))
  refine z_ldc G ct_X9_73 dX9_share_22 ?_
  exact z_iret G hq dX9_share_24 (h)
set_option maxHeartbeats 1000000 in
set_option maxRecDepth 20000 in
theorem k_X10_share0 {E : pmE} {d : Nat} {S : pmS} {I : pmI} {P : pmP} {R : Option Value → pmS → pmI → pmP → Prop} {m : Nat} (hM : MG S P m) (hn : I (m + 6) 0 = 0) {page x : Int32} (h : R (some (.int (-1000001))) S I P) : pmX E (d + 3) 0 0 yX10_share [rr E m, .int page, .int x] S I P R := by
  refine pm_of (by decide) cd_X10_share (by decide) (by decide) (Nat.le_of_ble_eq_true rfl) ?_
  intro C G hq
  obtain ⟨g0, ⟨r0, r1, r2, r3, r4, r5, r6, r7, r8, r9, r10, r11, r12, r13, r14⟩, ⟨s1, s2, s3, s4, s5, s6, s7, s8, s9, s10, s11, s12, s13, s14, s15⟩⟩ := id hM
  refine z_aload_n G dX10_share_0 rfl ?_
  refine z_iload_n G dX10_share_1 rfl ?_
  refine z_V G lk_X10_205 dX10_share_2 [_] rfl rfl rfl (Nat.le_of_ble_eq_true rfl) ⟨Nat.le_refl _, Nat.le_refl _⟩ (by assumption) ?_
  refine k_X10_isPage hM (n := 0) (by rw [hn]; rfl) (by omega) (fun k _ q => absurd q (by omega)) (fun _ => ?_)
  refine z_if_eq G 19 dX10_share_5 (by decide) (fun _ => ?_) (fun c => absurd c (by decide))
  refine z_ldc G ct_X10_70 dX10_share_19 ?_
  exact z_iret G hq dX10_share_21 (h)
set_option maxHeartbeats 1000000 in
set_option maxRecDepth 20000 in
theorem k_X9_commonDivisor {E : pmE} {d : Nat} {S : pmS} {I : pmI} {P : pmP} {R : Option Value → pmS → pmI → pmP → Prop} {a b : Nat} (ha : a < 2147483648) (hb : b ≤ 1679616) (h : R (some (.int (iN (Nat.gcd a b)))) S I P) : pmX E d 0 0 yX9_commonDivisor [.int (iN a), .int (iN b)] S I P R := by
  refine pm_of (by decide) cd_X9_commonDivisor (by decide) (by decide) (Nat.le_of_ble_eq_true rfl) ?_
  intro C G hq
  have loop : ∀ (k x y s : Nat) (u : Int32) (o5 : Option Value), u.toInt = (s : Int) → s + 2 * k + 1 ≤ 64 → y < 2 ^ k → x < 2147483648 → y < 2147483648 → Nat.gcd x y = Nat.gcd a b → pmZ E C 7 [some (.int (iN a)), some (.int (iN b)), some (.int (iN x)), some (.int (iN y)), some (.int u), o5] [] S I P 0 0 := by
    intro k
    induction k with
    | zero =>
      intro x y s u o5 hu hs hy hx1 hy1 hg
      obtain rfl : y = 0 := by simp at hy; exact hy
      rw [Nat.gcd_zero_right] at hg
      refine z_iload G dX9_commonDivisor_7 rfl ?_
      refine z_bipush G (v := 64) dX9_commonDivisor_9 (by decide) ?_
      refine z_icmp_ge G 34 dX9_commonDivisor_11 (by decide) (fun c => absurd c (by simp (disch := omega) only [iN_lit, iN_add, iN_sub, iN_mul, iN_an, iN_le, iN_lt, iN_eq, iN_of hu]; omega)) (fun _ => ?_)
      refine z_iload_n G dX9_commonDivisor_14 rfl ?_
      refine z_if_eq G 34 dX9_commonDivisor_15 (by decide) (fun _ => ?_) (fun c => absurd c (fun z => z rfl))
      refine z_iload_n G dX9_commonDivisor_34 rfl ?_
      exact z_iret G hq dX9_commonDivisor_35 (by rw [hg]; exact h)
    | succ k ih =>
      intro x y s u o5 hu hs hy hx1 hy1 hg
      rw [Nat.pow_succ] at hy
      refine z_iload G dX9_commonDivisor_7 rfl ?_
      refine z_bipush G (v := 64) dX9_commonDivisor_9 (by decide) ?_
      refine z_icmp_ge G 34 dX9_commonDivisor_11 (by decide) (fun c => absurd c (by simp (disch := omega) only [iN_lit, iN_add, iN_sub, iN_mul, iN_an, iN_le, iN_lt, iN_eq, iN_of hu]; omega)) (fun _ => ?_)
      refine z_iload_n G dX9_commonDivisor_14 rfl ?_
      refine z_if_eq G 34 dX9_commonDivisor_15 (by decide) (fun b15 => ?_) (fun b15 => ?_)
      · obtain rfl : y = 0 := by rw [iN_lit, iN_eq (by omega) (by omega)] at b15; exact b15
        refine z_iload_n G dX9_commonDivisor_34 rfl ?_
        exact z_iret G hq dX9_commonDivisor_35 (by rw [Nat.gcd_zero_right] at hg; rw [hg]; exact h)
      · refine z_iload_n G dX9_commonDivisor_18 rfl ?_
        refine z_iload_n G dX9_commonDivisor_19 rfl ?_
        refine z_irem G dX9_commonDivisor_20 b15 ?_
        have hy0 : 0 < y := Nat.pos_of_ne_zero (fun z => b15 (by rw [z]; rfl))
        refine z_top (y := iN (x % y)) (iN_rem hx1 hy1) ?_
        have hr9 := Nat.mod_lt x hy0
        refine z_istore G dX9_commonDivisor_21 (Nat.le_of_ble_eq_true rfl) rfl ?_
        refine z_iload_n G dX9_commonDivisor_23 rfl ?_
        refine z_istore_n G dX9_commonDivisor_24 (Nat.le_of_ble_eq_true rfl) rfl ?_
        refine z_iload G dX9_commonDivisor_25 rfl ?_
        refine z_istore_n G dX9_commonDivisor_27 (Nat.le_of_ble_eq_true rfl) rfl ?_
        refine z_iinc G (v := 1) dX9_commonDivisor_28 (by decide) rfl rfl ?_
        refine z_goto G 7 dX9_commonDivisor_31 (by decide) ?_
        refine z_iload G dX9_commonDivisor_7 rfl ?_
        refine z_bipush G (v := 64) dX9_commonDivisor_9 (by decide) ?_
        refine z_icmp_ge G 34 dX9_commonDivisor_11 (by decide) (fun c => absurd c (by simp (disch := omega) only [iN_lit, iN_add, iN_sub, iN_mul, iN_an, iN_le, iN_lt, iN_eq, iN_of hu]; omega)) (fun _ => ?_)
        refine z_iload_n G dX9_commonDivisor_14 rfl ?_
        refine z_if_eq G 34 dX9_commonDivisor_15 (by decide) (fun b15x => ?_) (fun b15x => ?_)
        · have hz : x % y = 0 := by rw [iN_lit, iN_eq (by omega) (by omega)] at b15x; exact b15x
          have hg2 : y = Nat.gcd a b := by rw [← hg, ← gcd_step, hz, Nat.gcd_zero_right]
          refine z_iload_n G dX9_commonDivisor_34 rfl ?_
          exact z_iret G hq dX9_commonDivisor_35 (by rw [hg2]; exact h)
        · refine z_iload_n G dX9_commonDivisor_18 rfl ?_
          refine z_iload_n G dX9_commonDivisor_19 rfl ?_
          refine z_irem G dX9_commonDivisor_20 b15x ?_
          have hy2 : 0 < x % y := Nat.pos_of_ne_zero (fun z => b15x (by rw [z]; rfl))
          refine z_top (y := iN (y % (x % y))) (iN_rem hy1 (by omega)) ?_
          have hr8 := half_mod hy2 hr9
          refine z_istore G dX9_commonDivisor_21 (Nat.le_of_ble_eq_true rfl) rfl ?_
          refine z_iload_n G dX9_commonDivisor_23 rfl ?_
          refine z_istore_n G dX9_commonDivisor_24 (Nat.le_of_ble_eq_true rfl) rfl ?_
          refine z_iload G dX9_commonDivisor_25 rfl ?_
          refine z_istore_n G dX9_commonDivisor_27 (Nat.le_of_ble_eq_true rfl) rfl ?_
          refine z_iinc G (v := 1) dX9_commonDivisor_28 (by decide) rfl rfl ?_
          refine z_goto G 7 dX9_commonDivisor_31 (by decide) ?_
          exact ih (x % y) (y % (x % y)) (s + 2) _ _ (by simp (disch := omega) only [iN_lit, iN_add, iN_sub, iN_mul, iN_an, iN_of hu]; exact iN_ti2 (by omega) (by omega)) (by omega) (by omega) (by omega) (by omega) (by rw [gcd_step, gcd_step]; exact hg)
  refine z_iload_n G dX9_commonDivisor_0 rfl ?_
  refine z_istore_n G dX9_commonDivisor_1 (Nat.le_of_ble_eq_true rfl) rfl ?_
  refine z_iload_n G dX9_commonDivisor_2 rfl ?_
  refine z_istore_n G dX9_commonDivisor_3 (Nat.le_of_ble_eq_true rfl) rfl ?_
  refine z_iconst G (v := 0) dX9_commonDivisor_4 (by decide) ?_
  refine z_istore G dX9_commonDivisor_5 (Nat.le_of_ble_eq_true rfl) rfl ?_
  exact loop 21 a b 0 0 _ rfl (by omega) (by omega) ha (by omega) rfl
set_option maxHeartbeats 1000000 in
set_option maxRecDepth 20000 in
theorem k_X9_chance {E : pmE} {d : Nat} {S : pmS} {I : pmI} {P : pmP} {R : Option Value → pmS → pmI → pmP → Prop} (hX : XG S P) {n T t c : Nat} {w : Nat → Int32} (hD : DR I P 30 w T c) (hV : Vd w n T t c) (hW : WR I 27 w n) {page x what : Int32} (hb : (¬ ∃ q k e : Nat, page.toInt = (q : Int) ∧ q < n ∧ x.toInt = (k : Int) ∧ k ≤ 8 ∧ what.toInt = (e : Int) ∧ e ≤ 1) → R (some (.int (-1000001))) S I P) (h : ∀ (J : pmI) (q k s p : Nat), (∀ k, k ≠ 555 → k ≠ 576 → J k = I k) → page.toInt = (q : Int) → q < n → x.toInt = (k : Int) → k ≤ 8 → Nw w t s p → R (some (.int (chI w n p k q what))) S J P) : pmX E (d + 5) 0 0 yX9_chance [rr E 0, .int page, .int x, .int what] S I P R := by
  refine pm_of (by decide) cd_X9_chance (by decide) (by decide) (Nat.le_of_ble_eq_true rfl) ?_
  intro C G hq
  obtain ⟨⟨a0, a1, a2, a3, a4, a5, a6, a7, a8⟩, hRG, hRdG, hWG, hDG, ⟨z1, z2, z3, z4⟩, hIG, hFG, hAG⟩ := id hX
  obtain ⟨v1, v2, v3, v4, v5, v6, v7, v8⟩ := id hV
  obtain ⟨f1, ⟨f2, f3, f4, f5, f6, f7, f8, f9⟩, f10, f11, f12, f13, f14, f15, f16, f17, f18⟩ := id hFG
  obtain ⟨s, p, hN, hpn⟩ := hV.nw
  refine z_aload_n G dX9_chance_0 rfl ?_
  refine z_getR G fl_X9_25 rfl dX9_chance_1 (by assumption) (by assumption) ?_
  refine z_iload_n G dX9_chance_4 rfl ?_
  refine z_V G lk_X9_179 dX9_chance_5 [_] rfl rfl rfl (Nat.le_of_ble_eq_true rfl) ⟨Nat.le_refl _, Nat.le_refl _⟩ hWG.1 ?_
  refine k_X8_hasPage hWG.1 (by rw [hW.1]; exact v1.1) ?_ ?_
  · intro q hq1 hq2
    refine z_if_eq G 30 dX9_chance_8 (by decide) (fun c => absurd c (by decide)) (fun _ => ?_)
    refine z_iload_n G dX9_chance_11 rfl ?_
    refine z_if_lt G 30 dX9_chance_12 (by decide) (fun b12 => ?_) (fun b12 => ?_)
    · refine z_ldc G ct_X9_73 dX9_chance_30 ?_
      exact z_iret G hq dX9_chance_32 (hb (fun ⟨q, k, e, _, _, q1, q2, _, _⟩ => by simp only [ti_lt, ti_le, Int32.reduceToInt] at *; omega))
    · refine z_iload_n G dX9_chance_15 rfl ?_
      refine z_bipush G (v := 8) dX9_chance_16 (by decide) ?_
      refine z_icmp_gt G 30 dX9_chance_18 (by decide) (fun b18 => ?_) (fun b18 => ?_)
      · refine z_ldc G ct_X9_73 dX9_chance_30 ?_
        exact z_iret G hq dX9_chance_32 (hb (fun ⟨q, k, e, _, _, q1, q2, _, _⟩ => by simp only [ti_lt, ti_le, Int32.reduceToInt] at *; omega))
      · refine z_iload_n G dX9_chance_21 rfl ?_
        refine z_if_lt G 30 dX9_chance_22 (by decide) (fun b22 => ?_) (fun b22 => ?_)
        · refine z_ldc G ct_X9_73 dX9_chance_30 ?_
          exact z_iret G hq dX9_chance_32 (hb (fun ⟨q, k, e, _, _, _, _, q1, q2⟩ => by simp only [ti_lt, ti_le, Int32.reduceToInt] at *; omega))
        · refine z_iload_n G dX9_chance_25 rfl ?_
          refine z_iconst G (v := 1) dX9_chance_26 (by decide) ?_
          refine z_icmp_le G 33 dX9_chance_27 (by decide) (fun b27 => ?_) (fun b27 => ?_)
          · obtain ⟨k, hk1, hk2⟩ : ∃ k : Nat, x.toInt = (k : Int) ∧ k ≤ 8 := ⟨x.toInt.toNat, by simp only [ti_lt, ti_le, Int32.reduceToInt] at *; omega, by simp only [ti_lt, ti_le, Int32.reduceToInt] at *; omega⟩
            obtain ⟨av, ae, ab⟩ := amt_N (s := p) (k := k) (q := q) v5 v1.2.2 (by omega) hk2 (by omega)
            have hp8 := pow_8 hk2
            refine z_aload_n G dX9_chance_33 rfl ?_
            refine z_getR G fl_X9_52 rfl dX9_chance_34 (by assumption) (by assumption) ?_
            refine z_aload_n G dX9_chance_37 rfl ?_
            refine z_getR G fl_X9_25 rfl dX9_chance_38 (by assumption) (by assumption) ?_
            refine z_aload_n G dX9_chance_41 rfl ?_
            refine z_getR G fl_X9_32 rfl dX9_chance_42 (by assumption) (by assumption) ?_
            refine z_V G lk_X9_160 dX9_chance_45 [] rfl rfl rfl (Nat.le_of_ble_eq_true rfl) ⟨Nat.le_refl _, Nat.le_refl _⟩ hDG.1.1 ?_
            refine k_X1_shownPage hDG hD hV hN ?_
            rw [iN_of hN.2.2.2.2.1]
            refine z_iload_n G dX9_chance_48 rfl ?_
            refine z_V G lk_X9_269 dX9_chance_49 [_, _, _] rfl rfl rfl (Nat.le_of_ble_eq_true rfl) ⟨Nat.le_refl _, Nat.le_refl _⟩ f1 ?_
            refine k_X2_weighWays hFG hWG hW v1.1 v1.2.2 v5 (by omega) hk1 (by omega) (fun J hJ hB => ?_)
            rw [powI_N]
            refine z_istore G dX9_chance_52 (Nat.le_of_ble_eq_true rfl) rfl ?_
            refine z_aload_n G dX9_chance_54 rfl ?_
            refine z_getR G fl_X9_52 rfl dX9_chance_55 (by assumption) (by assumption) ?_
            refine z_getR G fl_X9_246 rfl dX9_chance_58 (by assumption) (by assumption) ?_
            refine z_iload_n G dX9_chance_61 rfl ?_
            refine z_iald G (q) dX9_chance_62 f11 (hq1) (by omega) ?_
            rw [hB q (by omega), ae]
            refine z_istore G dX9_chance_63 (Nat.le_of_ble_eq_true rfl) rfl ?_
            refine z_iload G dX9_chance_65 rfl ?_
            refine z_iload G dX9_chance_67 rfl ?_
            refine z_S G lk_X9_273 dX9_chance_69 [_, _] rfl rfl rfl (Nat.le_of_ble_eq_true rfl) ⟨Nat.le_refl _, Nat.le_refl _⟩ ?_
            refine k_X9_commonDivisor (by omega) (by omega) ?_
            have hg0 : 0 < Nat.gcd av (6 ^ k) := Nat.gcd_pos_of_pos_right _ hp8.1
            have hg1 : Nat.gcd av (6 ^ k) ≤ 6 ^ k := Nat.le_of_dvd hp8.1 (Nat.gcd_dvd_right _ _)
            refine z_istore G dX9_chance_72 (Nat.le_of_ble_eq_true rfl) rfl ?_
            refine z_iload G dX9_chance_74 rfl ?_
            refine z_if_gt G 82 dX9_chance_76 (by decide) (fun _ => ?_) (fun c => absurd c (fun z => z (by rw [ti_lt, iN_ti (by omega)]; simp only [Int32.reduceToInt]; omega)))
            refine z_iload_n G dX9_chance_82 rfl ?_
            refine z_if_ne G 94 dX9_chance_83 (by decide) (fun b83 => ?_) (fun b83 => ?_)
            · refine z_iload G dX9_chance_94 rfl ?_
              refine z_iload G dX9_chance_96 rfl ?_
              refine z_idiv G dX9_chance_98 (by rw [iN_lit, iN_eq (by omega) (by omega)]; omega) ?_
              exact z_iret G hq dX9_chance_99 (by have := h J q k s p hJ hq1 hq2 hk1 hk2 hN; unfold chI at this; rw [if_neg b83, powI_N, ae, tn_iN (by omega)] at this; exact this)
            · refine z_iload G dX9_chance_86 rfl ?_
              refine z_iload G dX9_chance_88 rfl ?_
              refine z_idiv G dX9_chance_90 (by rw [iN_lit, iN_eq (by omega) (by omega)]; omega) ?_
              refine z_goto G 99 dX9_chance_91 (by decide) ?_
              exact z_iret G hq dX9_chance_99 (by have := h J q k s p hJ hq1 hq2 hk1 hk2 hN; unfold chI at this; rw [if_pos b83, ae, tn_iN (by omega)] at this; exact this)
          · refine z_ldc G ct_X9_73 dX9_chance_30 ?_
            exact z_iret G hq dX9_chance_32 (hb (fun ⟨q, k, e, _, _, _, _, q1, q2⟩ => by simp only [ti_lt, ti_le, Int32.reduceToInt] at *; omega))
  · intro hno
    refine z_if_eq G 30 dX9_chance_8 (by decide) (fun _ => ?_) (fun c => absurd c (by decide))
    refine z_ldc G ct_X9_73 dX9_chance_30 ?_
    exact z_iret G hq dX9_chance_32 (hb (fun ⟨q, k, e, q1, q2, _⟩ => hno ⟨q, q1, q2⟩))
set_option maxHeartbeats 1000000 in
set_option maxRecDepth 20000 in
theorem k_X10_weighs {E : pmE} {d : Nat} {S : pmS} {I : pmI} {P : pmP} {R : Option Value → pmS → pmI → pmP → Prop} {m : Nat} (hM : MG S P m) {n : Nat} {w : Nat → Int32} (hw : I (m + 6) = w) (hn : (w 0).toInt = (n : Int)) (hn8 : n ≤ 8) (hv : VL w n) {k t s p : Nat} {x : Int32} {b : Bool} (hN : Nw w t s p) (hk : x.toInt = (k : Int)) (hk12 : k ≤ 12) (h : ∀ J, (∀ k, k ≠ m + 12 → k ≠ m + 13 → J k = I k) → (∀ q, q < n → J (m + 12) q = amt w n b p k q) → R none S J P) : pmX E (d + 2) 0 0 yX10_weighs [rr E m, .int x, .int (bI b)] S I P R := by
  refine pm_of (by decide) cd_X10_weighs (by decide) (by decide) (Nat.le_of_ble_eq_true rfl) ?_
  intro C G hq
  obtain ⟨g0, ⟨r0, r1, r2, r3, r4, r5, r6, r7, r8, r9, r10, r11, r12, r13, r14⟩, ⟨s1, s2, s3, s4, s5, s6, s7, s8, s9, s10, s11, s12, s13, s14, s15⟩⟩ := id hM
  have loop1 : ∀ (r y : Nat) (u : Int32) (J : pmI) (o4 o5 o6 : Option Value), u.toInt = (y : Int) → y + r = k → (∀ k, k ≠ m + 12 → k ≠ m + 13 → J k = I k) → (∀ q, q < n → J (m + 12) q = amt w n b p y q) → pmZ E C 42 [some (rr E m), some (.int x), some (.int (bI b)), some (.int u), o4, o5, o6] [] S J P 0 0 := by
    intro r
    induction r with
    | zero =>
      intro y u J o4 o5 o6 hu hr hJ hB
      obtain rfl : y = k := by omega
      refine z_iload_n G dX10_weighs_42 rfl ?_
      refine z_iload_n G dX10_weighs_43 rfl ?_
      refine z_icmp_ge G 193 dX10_weighs_44 (by decide) (fun _ => ?_) (fun c => absurd c (fun z => z (by simp (disch := omega) only [iN_lit, iN_add, iN_sub, iN_mul, iN_an, iN_le, iN_lt, iN_eq, iN_of hu, iN_of hk] <;> omega)))
      exact z_vret G hq dX10_weighs_193 (h J hJ hB)
    | succ r ih =>
      intro y u J o4 o5 o6 hu hr hJ hB
      have loop3 : ∀ (r3 p1 : Nat) (u4 : Int32) (J : pmI) (o5 o6 : Option Value), u4.toInt = (p1 : Int) → p1 + r3 = n → (∀ k, k ≠ m + 12 → k ≠ m + 13 → J k = I k) → (∀ q, q < n → J (m + 13) q = amt w n b p y q) → (∀ q, q < n → J (m + 12) q = spP w b (amt w n b p y) p1 q) → pmZ E C 92 [some (rr E m), some (.int x), some (.int (bI b)), some (.int u), some (.int u4), o5, o6] [] S J P 0 0 := by
        intro r3
        induction r3 with
        | zero =>
          intro p1 u4 J o5 o6 hu4 hr3 hJ hA hB
          obtain rfl : p1 = n := by omega
          refine z_iload G dX10_weighs_92 rfl ?_
          refine z_aload_n G dX10_weighs_94 rfl ?_
          refine z_getR G fl_X10_25 rfl dX10_weighs_95 (by assumption) (by assumption) ?_
          refine z_iconst G (v := 0) dX10_weighs_98 (by decide) ?_
          refine z_iald G (0) dX10_weighs_99 (by assumption) (rfl) (by omega) ?_
          rw [hJ (m + 6) (by omega) (by omega), hw]
          refine z_icmp_ge G 187 dX10_weighs_100 (by decide) (fun _ => ?_) (fun c => absurd c (fun z => z (by simp (disch := omega) only [iN_lit, iN_add, iN_sub, iN_mul, iN_an, iN_le, iN_lt, iN_eq, iN_of hu4, iN_of hn] <;> omega)))
          refine z_iinc G (v := 1) dX10_weighs_187 (by decide) rfl rfl ?_
          refine z_goto G 42 dX10_weighs_190 (by decide) ?_
          exact ih (y + 1) _ J _ _ _ (by simp (disch := omega) only [iN_lit, iN_add, iN_sub, iN_mul, iN_an, iN_of hu]; exact iN_ti2 (by omega) (by omega)) (by omega) hJ hB
        | succ r3 ih3 =>
          intro p1 u4 J o5 o6 hu4 hr3 hJ hA hB
          have hpn : p1 < n := by omega
          obtain ⟨c, c1, c2, c3, c4⟩ := hv p1 hpn
          have ec : tn (w (4 + 5 * p1)) = c := by unfold tn; omega
          have loop4 : ∀ (r4 j : Nat) (u6 : Int32) (J : pmI), u6.toInt = ((j + 1 : Nat) : Int) → j + r4 = c → (∀ k, k ≠ m + 12 → k ≠ m + 13 → J k = I k) → (∀ q, q < n → J (m + 13) q = amt w n b p y q) → (∀ q, q < n → J (m + 12) q = spJ w (eachI w b (amt w n b p y) p1) p1 j (spP w b (amt w n b p y) p1) q) → pmZ E C 119 [some (rr E m), some (.int x), some (.int (bI b)), some (.int u), some (.int u4), some (.int (w (4 + 5 * p1))), some (.int u6)] [] S J P 0 0 := by
            intro r4
            induction r4 with
            | zero =>
              intro j u6 J hu6 hr4 hJ hA hB
              obtain rfl : j = c := by omega
              refine z_iload G dX10_weighs_119 rfl ?_
              refine z_iload G dX10_weighs_121 rfl ?_
              refine z_icmp_gt G 181 dX10_weighs_123 (by decide) (fun _ => ?_) (fun c => absurd c (fun z => z (by simp (disch := omega) only [iN_lit, iN_add, iN_sub, iN_mul, iN_an, iN_le, iN_lt, iN_eq, iN_of hu6, iN_of c1] <;> omega)))
              refine z_iinc G (v := 1) dX10_weighs_181 (by decide) rfl rfl ?_
              refine z_goto G 92 dX10_weighs_184 (by decide) ?_
              refine ih3 (p1 + 1) _ J _ _ (by simp (disch := omega) only [iN_lit, iN_add, iN_sub, iN_mul, iN_an, iN_of hu4]; exact iN_ti2 (by omega) (by omega)) (by omega) hJ hA (fun q hq => ?_)
              rw [hB q hq, ← ec]; rfl
            | succ r4 ih4 =>
              intro j u6 J hu6 hr4 hJ hA hB
              obtain ⟨tq, t1, t2⟩ := c4 j (by omega)
              have et : tn (w (5 + 5 * p1 + j)) = tq := by unfold tn; omega
              refine z_iload G dX10_weighs_119 rfl ?_
              refine z_iload G dX10_weighs_121 rfl ?_
              refine z_icmp_gt G 181 dX10_weighs_123 (by decide) (fun c => absurd c (by simp (disch := omega) only [iN_lit, iN_add, iN_sub, iN_mul, iN_an, iN_le, iN_lt, iN_eq, iN_of hu6, iN_of c1]; omega)) (fun _ => ?_)
              refine z_aload_n G dX10_weighs_126 rfl ?_
              refine z_getR G fl_X10_44 rfl dX10_weighs_127 (by assumption) (by assumption) ?_
              refine z_aload_n G dX10_weighs_130 rfl ?_
              refine z_getR G fl_X10_25 rfl dX10_weighs_131 (by assumption) (by assumption) ?_
              refine z_iconst G (v := 4) dX10_weighs_134 (by decide) ?_
              refine z_iconst G (v := 5) dX10_weighs_135 (by decide) ?_
              refine z_iload G dX10_weighs_136 rfl ?_
              refine z_imul G dX10_weighs_138 ?_
              refine z_iadd G dX10_weighs_139 ?_
              refine z_iload G dX10_weighs_140 rfl ?_
              refine z_iadd G dX10_weighs_142 ?_
              refine z_iald G (5 + 5 * p1 + j) dX10_weighs_143 (by assumption) (by simp (disch := omega) only [iN_lit, iN_add, iN_sub, iN_mul, iN_an, iN_of hu4, iN_of hu6]; exact iN_ti2 (by omega) (by omega)) (by omega) ?_
              rw [hJ (m + 6) (by omega) (by omega), hw]; rw [iN_of t1]
              refine z_dup2 G dX10_weighs_144 rfl rfl ?_
              refine z_iald G (tq) dX10_weighs_145 (by assumption) (iN_ti (by omega)) (by omega) ?_
              refine z_iload_n G dX10_weighs_146 rfl ?_
              refine z_if_eq G 166 dX10_weighs_147 (by decide) (fun b147 => ?_) (fun b147 => ?_)
              · have hbf : b = false := by cases b; rfl; exact absurd b147 (by decide)
                refine z_aload_n G dX10_weighs_166 rfl ?_
                refine z_getR G fl_X10_47 rfl dX10_weighs_167 (by assumption) (by assumption) ?_
                refine z_iload G dX10_weighs_170 rfl ?_
                refine z_iald G (p1) dX10_weighs_172 (by assumption) (hu4) (by omega) ?_
                refine z_top (y := eachI w b (amt w n b p y) p1) (by rw [hA p1 hpn, hbf]; rfl) ?_
                refine z_iadd G dX10_weighs_173 ?_
                refine z_iast G (tq) dX10_weighs_174 (by assumption) (iN_ti (by omega)) (by omega) ?_
                refine z_iinc G (v := 1) dX10_weighs_175 (by decide) rfl rfl ?_
                refine z_goto G 119 dX10_weighs_178 (by decide) ?_
                refine ih4 (j + 1) _ _ (by simp (disch := omega) only [iN_lit, iN_add, iN_sub, iN_mul, iN_an, iN_of hu6]; exact iN_ti2 (by omega) (by omega)) (by omega) (fun q a b => (va_ne' a).trans (hJ q a b)) (fun q hq => by rw [va_ne' (by omega)]; exact hA q hq) (fun q hq => ?_)
                rw [va_at' rfl]
                show _ = va_up (spJ w (eachI w b (amt w n b p y) p1) p1 j (spP w b (amt w n b p y) p1)) (tn (w (5 + 5 * p1 + j))) _ q
                rw [et]
                by_cases e : q = tq
                · subst e; rw [va_at' rfl, va_at' rfl, hB q hq]
                · rw [va_ne' e, va_ne' e]; exact hB q hq
              · have hbt : b = true := by cases b; exact absurd rfl b147; rfl
                refine z_aload_n G dX10_weighs_150 rfl ?_
                refine z_getR G fl_X10_47 rfl dX10_weighs_151 (by assumption) (by assumption) ?_
                refine z_iload G dX10_weighs_154 rfl ?_
                refine z_iald G (p1) dX10_weighs_156 (by assumption) (hu4) (by omega) ?_
                refine z_bipush G (v := 6) dX10_weighs_157 (by decide) ?_
                refine z_iload G dX10_weighs_159 rfl ?_
                refine z_idiv G dX10_weighs_161 (by simp (disch := omega) only [iN_lit, iN_add, iN_sub, iN_mul, iN_an, iN_le, iN_lt, iN_eq, iN_of c1]; omega) ?_
                refine z_imul G dX10_weighs_162 ?_
                refine z_goto G 173 dX10_weighs_163 (by decide) ?_
                refine z_top (y := eachI w b (amt w n b p y) p1) (by rw [hA p1 hpn, hbt]; rfl) ?_
                refine z_iadd G dX10_weighs_173 ?_
                refine z_iast G (tq) dX10_weighs_174 (by assumption) (iN_ti (by omega)) (by omega) ?_
                refine z_iinc G (v := 1) dX10_weighs_175 (by decide) rfl rfl ?_
                refine z_goto G 119 dX10_weighs_178 (by decide) ?_
                refine ih4 (j + 1) _ _ (by simp (disch := omega) only [iN_lit, iN_add, iN_sub, iN_mul, iN_an, iN_of hu6]; exact iN_ti2 (by omega) (by omega)) (by omega) (fun q a b => (va_ne' a).trans (hJ q a b)) (fun q hq => by rw [va_ne' (by omega)]; exact hA q hq) (fun q hq => ?_)
                rw [va_at' rfl]
                show _ = va_up (spJ w (eachI w b (amt w n b p y) p1) p1 j (spP w b (amt w n b p y) p1)) (tn (w (5 + 5 * p1 + j))) _ q
                rw [et]
                by_cases e : q = tq
                · subst e; rw [va_at' rfl, va_at' rfl, hB q hq]
                · rw [va_ne' e, va_ne' e]; exact hB q hq
          refine z_iload G dX10_weighs_92 rfl ?_
          refine z_aload_n G dX10_weighs_94 rfl ?_
          refine z_getR G fl_X10_25 rfl dX10_weighs_95 (by assumption) (by assumption) ?_
          refine z_iconst G (v := 0) dX10_weighs_98 (by decide) ?_
          refine z_iald G (0) dX10_weighs_99 (by assumption) (rfl) (by omega) ?_
          rw [hJ (m + 6) (by omega) (by omega), hw]
          refine z_icmp_ge G 187 dX10_weighs_100 (by decide) (fun c => absurd c (by simp (disch := omega) only [iN_lit, iN_add, iN_sub, iN_mul, iN_an, iN_le, iN_lt, iN_eq, iN_of hu4, iN_of hn]; omega)) (fun _ => ?_)
          refine z_aload_n G dX10_weighs_103 rfl ?_
          refine z_getR G fl_X10_25 rfl dX10_weighs_104 (by assumption) (by assumption) ?_
          refine z_iconst G (v := 4) dX10_weighs_107 (by decide) ?_
          refine z_iconst G (v := 5) dX10_weighs_108 (by decide) ?_
          refine z_iload G dX10_weighs_109 rfl ?_
          refine z_imul G dX10_weighs_111 ?_
          refine z_iadd G dX10_weighs_112 ?_
          refine z_iald G (4 + 5 * p1) dX10_weighs_113 (by assumption) (by simp (disch := omega) only [iN_lit, iN_add, iN_sub, iN_mul, iN_an, iN_of hu4]; exact iN_ti2 (by omega) (by omega)) (by omega) ?_
          rw [hJ (m + 6) (by omega) (by omega), hw]
          refine z_istore G dX10_weighs_114 (Nat.le_of_ble_eq_true rfl) rfl ?_
          refine z_iconst G (v := 1) dX10_weighs_116 (by decide) ?_
          refine z_istore G dX10_weighs_117 (Nat.le_of_ble_eq_true rfl) rfl ?_
          exact loop4 c 0 1 J rfl (by omega) hJ hA hB
      have loop2 : ∀ (r3 p1 : Nat) (u4 : Int32) (J : pmI), u4.toInt = (p1 : Int) → p1 + r3 = n → (∀ k, k ≠ m + 12 → k ≠ m + 13 → J k = I k) → (∀ q, q < p1 → J (m + 13) q = amt w n b p y q ∧ J (m + 12) q = 0) → (∀ q, p1 ≤ q → q < n → J (m + 12) q = amt w n b p y q) → pmZ E C 50 [some (rr E m), some (.int x), some (.int (bI b)), some (.int u), some (.int u4), o5, o6] [] S J P 0 0 := by
        intro r3
        induction r3 with
        | zero =>
          intro p1 u4 J hu4 hr3 hJ hA hB
          obtain rfl : p1 = n := by omega
          refine z_iload G dX10_weighs_50 rfl ?_
          refine z_aload_n G dX10_weighs_52 rfl ?_
          refine z_getR G fl_X10_25 rfl dX10_weighs_53 (by assumption) (by assumption) ?_
          refine z_iconst G (v := 0) dX10_weighs_56 (by decide) ?_
          refine z_iald G (0) dX10_weighs_57 (by assumption) (rfl) (by omega) ?_
          rw [hJ (m + 6) (by omega) (by omega), hw]
          refine z_icmp_ge G 89 dX10_weighs_58 (by decide) (fun _ => ?_) (fun c => absurd c (fun z => z (by simp (disch := omega) only [iN_lit, iN_add, iN_sub, iN_mul, iN_an, iN_le, iN_lt, iN_eq, iN_of hu4, iN_of hn] <;> omega)))
          refine z_iconst G (v := 0) dX10_weighs_89 (by decide) ?_
          refine z_istore G dX10_weighs_90 (Nat.le_of_ble_eq_true rfl) rfl ?_
          exact loop3 p1 0 0 J _ _ rfl (by omega) hJ (fun q hq => (hA q hq).1) (fun q hq => (hA q hq).2)
        | succ r3 ih3 =>
          intro p1 u4 J hu4 hr3 hJ hA hB
          refine z_iload G dX10_weighs_50 rfl ?_
          refine z_aload_n G dX10_weighs_52 rfl ?_
          refine z_getR G fl_X10_25 rfl dX10_weighs_53 (by assumption) (by assumption) ?_
          refine z_iconst G (v := 0) dX10_weighs_56 (by decide) ?_
          refine z_iald G (0) dX10_weighs_57 (by assumption) (rfl) (by omega) ?_
          rw [hJ (m + 6) (by omega) (by omega), hw]
          refine z_icmp_ge G 89 dX10_weighs_58 (by decide) (fun c => absurd c (by simp (disch := omega) only [iN_lit, iN_add, iN_sub, iN_mul, iN_an, iN_le, iN_lt, iN_eq, iN_of hu4, iN_of hn]; omega)) (fun _ => ?_)
          refine z_aload_n G dX10_weighs_61 rfl ?_
          refine z_getR G fl_X10_47 rfl dX10_weighs_62 (by assumption) (by assumption) ?_
          refine z_iload G dX10_weighs_65 rfl ?_
          refine z_aload_n G dX10_weighs_67 rfl ?_
          refine z_getR G fl_X10_44 rfl dX10_weighs_68 (by assumption) (by assumption) ?_
          refine z_iload G dX10_weighs_71 rfl ?_
          refine z_iald G (p1) dX10_weighs_73 (by assumption) (hu4) (by omega) ?_
          rw [hB p1 (Nat.le_refl _) (by omega)]
          refine z_iast G (p1) dX10_weighs_74 (by assumption) (hu4) (by omega) ?_
          refine z_aload_n G dX10_weighs_75 rfl ?_
          refine z_getR G fl_X10_44 rfl dX10_weighs_76 (by assumption) (by assumption) ?_
          refine z_iload G dX10_weighs_79 rfl ?_
          refine z_iconst G (v := 0) dX10_weighs_81 (by decide) ?_
          refine z_iast G (p1) dX10_weighs_82 (by assumption) (hu4) (by omega) ?_
          refine z_iinc G (v := 1) dX10_weighs_83 (by decide) rfl rfl ?_
          refine z_goto G 50 dX10_weighs_86 (by decide) ?_
          refine ih3 (p1 + 1) _ _ (by simp (disch := omega) only [iN_lit, iN_add, iN_sub, iN_mul, iN_an, iN_of hu4]; exact iN_ti2 (by omega) (by omega)) (by omega) (fun q a b => (va_ne' a).trans ((va_ne' b).trans (hJ q a b))) (fun q hq => ?_) (fun q h1 h2 => ?_)
          · rw [va_ne' (show m + 13 ≠ m + 12 by omega), va_at' rfl, va_at' rfl, va_ne' (show m + 12 ≠ m + 13 by omega)]
            by_cases e : q = p1
            · subst e; exact ⟨va_at' rfl, va_at' rfl⟩
            · rw [va_ne' e, va_ne' e]; exact hA q (by omega)
          · rw [va_at' rfl, va_ne' (by omega), va_ne' (show m + 12 ≠ m + 13 by omega)]; exact hB q (by omega) h2
      refine z_iload_n G dX10_weighs_42 rfl ?_
      refine z_iload_n G dX10_weighs_43 rfl ?_
      refine z_icmp_ge G 193 dX10_weighs_44 (by decide) (fun c => absurd c (by simp (disch := omega) only [iN_lit, iN_add, iN_sub, iN_mul, iN_an, iN_le, iN_lt, iN_eq, iN_of hu, iN_of hk]; omega)) (fun _ => ?_)
      refine z_iconst G (v := 0) dX10_weighs_47 (by decide) ?_
      refine z_istore G dX10_weighs_48 (Nat.le_of_ble_eq_true rfl) rfl ?_
      exact loop2 n 0 0 J rfl (by omega) hJ (fun q hq => absurd hq (by omega)) (fun q _ hq => hB q hq)
  have loop0 : ∀ (r y : Nat) (u : Int32) (J : pmI), u.toInt = (y : Int) → y + r = n → (∀ k, k ≠ m + 12 → k ≠ m + 13 → J k = I k) → (∀ q, q < y → J (m + 12) q = amt w n b p 0 q) → pmZ E C 2 [some (rr E m), some (.int x), some (.int (bI b)), some (.int u), none, none, none] [] S J P 0 0 := by
    intro r
    induction r with
    | zero =>
      intro y u J hu hr hJ hB
      obtain rfl : y = n := by omega
      refine z_iload_n G dX10_weighs_2 rfl ?_
      refine z_aload_n G dX10_weighs_3 rfl ?_
      refine z_getR G fl_X10_25 rfl dX10_weighs_4 (by assumption) (by assumption) ?_
      refine z_iconst G (v := 0) dX10_weighs_7 (by decide) ?_
      refine z_iald G (0) dX10_weighs_8 (by assumption) (rfl) (by omega) ?_
      rw [hJ (m + 6) (by omega) (by omega), hw]
      refine z_icmp_ge G 40 dX10_weighs_9 (by decide) (fun _ => ?_) (fun c => absurd c (fun z => z (by simp (disch := omega) only [iN_lit, iN_add, iN_sub, iN_mul, iN_an, iN_le, iN_lt, iN_eq, iN_of hu, iN_of hn] <;> omega)))
      refine z_iconst G (v := 0) dX10_weighs_40 (by decide) ?_
      refine z_istore_n G dX10_weighs_41 (Nat.le_of_ble_eq_true rfl) rfl ?_
      exact loop1 k 0 0 J _ _ _ rfl (by omega) hJ hB
    | succ r ih =>
      intro y u J hu hr hJ hB
      refine z_iload_n G dX10_weighs_2 rfl ?_
      refine z_aload_n G dX10_weighs_3 rfl ?_
      refine z_getR G fl_X10_25 rfl dX10_weighs_4 (by assumption) (by assumption) ?_
      refine z_iconst G (v := 0) dX10_weighs_7 (by decide) ?_
      refine z_iald G (0) dX10_weighs_8 (by assumption) (rfl) (by omega) ?_
      rw [hJ (m + 6) (by omega) (by omega), hw]
      refine z_icmp_ge G 40 dX10_weighs_9 (by decide) (fun c => absurd c (by simp (disch := omega) only [iN_lit, iN_add, iN_sub, iN_mul, iN_an, iN_le, iN_lt, iN_eq, iN_of hu, iN_of hn]; omega)) (fun _ => ?_)
      refine z_aload_n G dX10_weighs_12 rfl ?_
      refine z_getR G fl_X10_44 rfl dX10_weighs_13 (by assumption) (by assumption) ?_
      refine z_iload_n G dX10_weighs_16 rfl ?_
      refine z_iload_n G dX10_weighs_17 rfl ?_
      refine z_aload_n G dX10_weighs_18 rfl ?_
      refine z_getR G fl_X10_25 rfl dX10_weighs_19 (by assumption) (by assumption) ?_
      refine z_S G lk_X10_157 dX10_weighs_22 [_] rfl rfl rfl (Nat.le_of_ble_eq_true rfl) ⟨Nat.le_refl _, Nat.le_refl _⟩ ?_
      refine k_X10_seen s6 (t := t) (s := s) (p := p) (by rw [hJ (m + 6) (by omega) (by omega), hw]; exact hN) ?_
      rw [hJ (m + 6) (by omega) (by omega), hw]; rw [iN_of hN.2.2.2.2.1]
      refine z_icmp_ne G 32 dX10_weighs_25 (by decide) (fun b25 => ?_) (fun b25 => ?_)
      · refine z_iconst G (v := 0) dX10_weighs_32 (by decide) ?_
        refine z_iast G (y) dX10_weighs_33 (by assumption) (hu) (by omega) ?_
        refine z_iinc G (v := 1) dX10_weighs_34 (by decide) rfl rfl ?_
        refine z_goto G 2 dX10_weighs_37 (by decide) ?_
        refine ih (y + 1) _ _ (by simp (disch := omega) only [iN_lit, iN_add, iN_sub, iN_mul, iN_an, iN_of hu]; exact iN_ti2 (by omega) (by omega)) (by omega) (fun q a b => (va_ne' a).trans (hJ q a b)) (fun q hq => ?_)
        rw [va_at' rfl]
        by_cases e : q = y
        · subst e; rw [va_at' rfl]; exact (if_neg (fun z => b25 (by rw [iN_of hu, z]))).symm
        · rw [va_ne' e]; exact hB q (by omega)
      · refine z_iconst G (v := 1) dX10_weighs_28 (by decide) ?_
        refine z_goto G 33 dX10_weighs_29 (by decide) ?_
        refine z_iast G (y) dX10_weighs_33 (by assumption) (hu) (by omega) ?_
        refine z_iinc G (v := 1) dX10_weighs_34 (by decide) rfl rfl ?_
        refine z_goto G 2 dX10_weighs_37 (by decide) ?_
        refine ih (y + 1) _ _ (by simp (disch := omega) only [iN_lit, iN_add, iN_sub, iN_mul, iN_an, iN_of hu]; exact iN_ti2 (by omega) (by omega)) (by omega) (fun q a b => (va_ne' a).trans (hJ q a b)) (fun q hq => ?_)
        rw [va_at' rfl]
        by_cases e : q = y
        · subst e; rw [va_at' rfl]; exact (if_pos (by have h9 := hN.2.2.2.2.2; have := congrArg Int32.toInt b25; rw [hu, iN_ti (by omega)] at this; omega)).symm
        · rw [va_ne' e]; exact hB q (by omega)
  refine z_iconst G (v := 0) dX10_weighs_0 (by decide) ?_
  refine z_istore_n G dX10_weighs_1 (Nat.le_of_ble_eq_true rfl) rfl ?_
  exact loop0 n 0 0 I rfl (by omega) (fun _ _ _ => rfl) (fun q hq => absurd hq (by omega))
set_option maxHeartbeats 1000000 in
set_option maxRecDepth 20000 in
theorem k_X10_ways {E : pmE} {d : Nat} {S : pmS} {I : pmI} {P : pmP} {R : Option Value → pmS → pmI → pmP → Prop} {m : Nat} (hM : MG S P m) {n T t c : Nat} {w : Nat → Int32} (hw : I (m + 6) = w) (hV : Vd w n T t c) {page x : Int32} (hb : (¬ ∃ q k : Nat, page.toInt = (q : Int) ∧ q < n ∧ x.toInt = (k : Int) ∧ k ≤ 12) → R (some (.int (-1000001))) S I P) (h : ∀ (J : pmI) (q k s p : Nat), (∀ k, k ≠ m + 12 → k ≠ m + 13 → J k = I k) → page.toInt = (q : Int) → q < n → x.toInt = (k : Int) → k ≤ 12 → Nw w t s p → R (some (.int (amt w n false p k q))) S J P) : pmX E (d + 3) 0 0 yX10_ways [rr E m, .int page, .int x] S I P R := by
  refine pm_of (by decide) cd_X10_ways (by decide) (by decide) (Nat.le_of_ble_eq_true rfl) ?_
  intro C G hq
  obtain ⟨g0, ⟨r0, r1, r2, r3, r4, r5, r6, r7, r8, r9, r10, r11, r12, r13, r14⟩, ⟨s1, s2, s3, s4, s5, s6, s7, s8, s9, s10, s11, s12, s13, s14, s15⟩⟩ := id hM
  obtain ⟨v1, v2, v3, v4, v5, v6, v7, v8⟩ := id hV
  obtain ⟨s, p, hN, hpn⟩ := hV.nw
  refine z_aload_n G dX10_ways_0 rfl ?_
  refine z_iload_n G dX10_ways_1 rfl ?_
  refine z_V G lk_X10_205 dX10_ways_2 [_] rfl rfl rfl (Nat.le_of_ble_eq_true rfl) ⟨Nat.le_refl _, Nat.le_refl _⟩ (by assumption) ?_
  refine k_X10_isPage hM (by rw [hw]; exact v1.1) v1.2.2 ?_ ?_
  · intro q hq1 hq2
    refine z_if_eq G 18 dX10_ways_5 (by decide) (fun c => absurd c (by decide)) (fun _ => ?_)
    refine z_iload_n G dX10_ways_8 rfl ?_
    refine z_iconst G (v := 0) dX10_ways_9 (by decide) ?_
    refine z_bipush G (v := 12) dX10_ways_10 (by decide) ?_
    refine z_S G lk_X10_62 dX10_ways_12 [_, _, _] rfl rfl rfl (Nat.le_of_ble_eq_true rfl) ⟨Nat.le_refl _, Nat.le_refl _⟩ ?_
    refine k_X10_in ?_ ?_
    · intro hin
      refine z_if_ne G 21 dX10_ways_15 (by decide) (fun _ => ?_) (fun c => absurd c (by decide))
      obtain ⟨k, hk1, hk2⟩ : ∃ k : Nat, x.toInt = (k : Int) ∧ k ≤ 12 := ⟨x.toInt.toNat, by simp only [ti_lt, ti_le, Int32.reduceToInt] at hin; omega, by simp only [ti_lt, ti_le, Int32.reduceToInt] at hin; omega⟩
      refine z_aload_n G dX10_ways_21 rfl ?_
      refine z_iload_n G dX10_ways_22 rfl ?_
      refine z_iconst G (v := 0) dX10_ways_23 (by decide) ?_
      refine z_V G lk_X10_220 dX10_ways_24 [_, _] rfl rfl rfl (Nat.le_of_ble_eq_true rfl) ⟨Nat.le_refl _, Nat.le_refl _⟩ (by assumption) ?_
      refine k_X10_weighs (b := false) hM hw v1.1 v1.2.2 v5 hN hk1 hk2 (fun J hJ hB => ?_)
      refine z_aload_n G dX10_ways_27 rfl ?_
      refine z_getR G fl_X10_44 rfl dX10_ways_28 (by assumption) (by assumption) ?_
      refine z_iload_n G dX10_ways_31 rfl ?_
      refine z_iald G (q) dX10_ways_32 (by assumption) (hq1) (by omega) ?_
      exact z_iret G hq dX10_ways_33 (by rw [hB q hq2]; exact h J q k s p hJ hq1 hq2 hk1 hk2 hN)
    · intro hin
      refine z_if_ne G 21 dX10_ways_15 (by decide) (fun c => absurd c (by decide)) (fun _ => ?_)
      refine z_ldc G ct_X10_70 dX10_ways_18 ?_
      exact z_iret G hq dX10_ways_20 (hb (fun ⟨q, k, _, _, q1, q2⟩ => hin (by simp only [ti_lt, ti_le, Int32.reduceToInt]; omega)))
  · intro hno
    refine z_if_eq G 18 dX10_ways_5 (by decide) (fun _ => ?_) (fun c => absurd c (by decide))
    refine z_ldc G ct_X10_70 dX10_ways_18 ?_
    exact z_iret G hq dX10_ways_20 (hb (fun ⟨q, k, q1, q2, _⟩ => hno ⟨q, q1, q2⟩))
set_option maxHeartbeats 1000000 in
set_option maxRecDepth 20000 in
theorem k_X10_chance {E : pmE} {d : Nat} {S : pmS} {I : pmI} {P : pmP} {R : Option Value → pmS → pmI → pmP → Prop} {m : Nat} (hM : MG S P m) {n T t c : Nat} {w : Nat → Int32} (hw : I (m + 6) = w) (hV : Vd w n T t c) {page x what : Int32} (hb : (¬ ∃ q k e : Nat, page.toInt = (q : Int) ∧ q < n ∧ x.toInt = (k : Int) ∧ k ≤ 8 ∧ what.toInt = (e : Int) ∧ e ≤ 1) → R (some (.int (-1000001))) S I P) (h : ∀ (J : pmI) (q k s p : Nat), (∀ k, k ≠ m + 12 → k ≠ m + 13 → J k = I k) → page.toInt = (q : Int) → q < n → x.toInt = (k : Int) → k ≤ 8 → Nw w t s p → R (some (.int (chI w n p k q what))) S J P) : pmX E (d + 3) 0 0 yX10_chance [rr E m, .int page, .int x, .int what] S I P R := by
  refine pm_of (by decide) cd_X10_chance (by decide) (by decide) (Nat.le_of_ble_eq_true rfl) ?_
  intro C G hq
  obtain ⟨g0, ⟨r0, r1, r2, r3, r4, r5, r6, r7, r8, r9, r10, r11, r12, r13, r14⟩, ⟨s1, s2, s3, s4, s5, s6, s7, s8, s9, s10, s11, s12, s13, s14, s15⟩⟩ := id hM
  obtain ⟨v1, v2, v3, v4, v5, v6, v7, v8⟩ := id hV
  obtain ⟨s, p, hN, hpn⟩ := hV.nw
  have loopG : ∀ (q k av : Nat) (J : pmI), (∀ k, k ≠ m + 12 → k ≠ m + 13 → J k = I k) → page.toInt = (q : Int) → q < n → x.toInt = (k : Int) → k ≤ 8 → amt w n true p k q = iN av → av ≤ 1679616 → ∀ (r y z : Nat) (o8 : Option Value), y ≤ r → z < 2147483648 → y < 2147483648 → Nat.gcd z y = Nat.gcd av (6 ^ k) → pmZ E C 77 [some (rr E m), some (.int page), some (.int x), some (.int what), some (.int (iN av)), some (.int (iN (6 ^ k))), some (.int (iN z)), some (.int (iN y)), o8] [] S J P 0 0 := by
    intro q k av J hJ hq1 hq2 hk1 hk2 ae ab r
    have hp8 := pow_8 hk2
    have hg0 : 0 < Nat.gcd av (6 ^ k) := Nat.gcd_pos_of_pos_right _ hp8.1
    have hg1 : Nat.gcd av (6 ^ k) ≤ 6 ^ k := Nat.le_of_dvd hp8.1 (Nat.gcd_dvd_right _ _)
    induction r with
    | zero =>
      intro y z o8 hy hz1 hy1 hg
      obtain rfl : y = 0 := by omega
      rw [Nat.gcd_zero_right] at hg
      subst hg
      refine z_iload G dX10_chance_77 rfl ?_
      refine z_if_eq G 100 dX10_chance_79 (by decide) (fun _ => ?_) (fun c => absurd c (fun z => z rfl))
      refine z_iload_n G dX10_chance_100 rfl ?_
      refine z_if_ne G 109 dX10_chance_101 (by decide) (fun b101 => ?_) (fun b101 => ?_)
      · refine z_iload G dX10_chance_109 rfl ?_
        refine z_iload G dX10_chance_111 rfl ?_
        refine z_idiv G dX10_chance_113 (by rw [iN_lit, iN_eq (by omega) (by omega)]; omega) ?_
        exact z_iret G hq dX10_chance_114 (by have := h J q k s p hJ hq1 hq2 hk1 hk2 hN; unfold chI at this; rw [if_neg b101, powI_N, ae, tn_iN (by omega)] at this; exact this)
      · refine z_iload G dX10_chance_104 rfl ?_
        refine z_goto G 111 dX10_chance_106 (by decide) ?_
        refine z_iload G dX10_chance_111 rfl ?_
        refine z_idiv G dX10_chance_113 (by rw [iN_lit, iN_eq (by omega) (by omega)]; omega) ?_
        exact z_iret G hq dX10_chance_114 (by have := h J q k s p hJ hq1 hq2 hk1 hk2 hN; unfold chI at this; rw [if_pos b101, ae, tn_iN (by omega)] at this; exact this)
    | succ r ih =>
      intro y z o8 hy hz1 hy1 hg
      refine z_iload G dX10_chance_77 rfl ?_
      refine z_if_eq G 100 dX10_chance_79 (by decide) (fun b79 => ?_) (fun b79 => ?_)
      · obtain rfl : y = 0 := by rw [iN_lit, iN_eq (by omega) (by omega)] at b79; exact b79
        rw [Nat.gcd_zero_right] at hg
        subst hg
        refine z_iload_n G dX10_chance_100 rfl ?_
        refine z_if_ne G 109 dX10_chance_101 (by decide) (fun b101 => ?_) (fun b101 => ?_)
        · refine z_iload G dX10_chance_109 rfl ?_
          refine z_iload G dX10_chance_111 rfl ?_
          refine z_idiv G dX10_chance_113 (by rw [iN_lit, iN_eq (by omega) (by omega)]; omega) ?_
          exact z_iret G hq dX10_chance_114 (by have := h J q k s p hJ hq1 hq2 hk1 hk2 hN; unfold chI at this; rw [if_neg b101, powI_N, ae, tn_iN (by omega)] at this; exact this)
        · refine z_iload G dX10_chance_104 rfl ?_
          refine z_goto G 111 dX10_chance_106 (by decide) ?_
          refine z_iload G dX10_chance_111 rfl ?_
          refine z_idiv G dX10_chance_113 (by rw [iN_lit, iN_eq (by omega) (by omega)]; omega) ?_
          exact z_iret G hq dX10_chance_114 (by have := h J q k s p hJ hq1 hq2 hk1 hk2 hN; unfold chI at this; rw [if_pos b101, ae, tn_iN (by omega)] at this; exact this)
      · refine z_iload G dX10_chance_82 rfl ?_
        refine z_iload G dX10_chance_84 rfl ?_
        refine z_irem G dX10_chance_86 b79 ?_
        have hy0 : 0 < y := Nat.pos_of_ne_zero (fun z => b79 (by rw [z]; rfl))
        refine z_top (y := iN (z % y)) (iN_rem hz1 hy1) ?_
        have hr9 := Nat.mod_lt z hy0
        refine z_istore G dX10_chance_87 (Nat.le_of_ble_eq_true rfl) rfl ?_
        refine z_iload G dX10_chance_89 rfl ?_
        refine z_istore G dX10_chance_91 (Nat.le_of_ble_eq_true rfl) rfl ?_
        refine z_iload G dX10_chance_93 rfl ?_
        refine z_istore G dX10_chance_95 (Nat.le_of_ble_eq_true rfl) rfl ?_
        refine z_goto G 77 dX10_chance_97 (by decide) ?_
        exact ih (z % y) y _ (by omega) (by omega) (by omega) (by rw [gcd_step]; exact hg)
  have loopB : ∀ (q k av : Nat) (J : pmI), (∀ k, k ≠ m + 12 → k ≠ m + 13 → J k = I k) → page.toInt = (q : Int) → q < n → x.toInt = (k : Int) → k ≤ 8 → amt w n true p k q = iN av → av ≤ 1679616 → ∀ (r y : Nat) (u : Int32), u.toInt = (y : Int) → y + r = k → pmZ E C 50 [some (rr E m), some (.int page), some (.int x), some (.int what), some (.int (iN av)), some (.int (powI y)), some (.int u), none, none] [] S J P 0 0 := by
    intro q k av J hJ hq1 hq2 hk1 hk2 ae ab r
    have hp8 := pow_8 hk2
    induction r with
    | zero =>
      intro y u hu hr
      obtain rfl : y = k := by omega
      rw [powI_N]
      refine z_iload G dX10_chance_50 rfl ?_
      refine z_iload_n G dX10_chance_52 rfl ?_
      refine z_icmp_ge G 69 dX10_chance_53 (by decide) (fun _ => ?_) (fun c => absurd c (fun z => z (by simp (disch := omega) only [iN_lit, iN_add, iN_sub, iN_mul, iN_an, iN_le, iN_lt, iN_eq, iN_of hu, iN_of hk1] <;> omega)))
      refine z_iload G dX10_chance_69 rfl ?_
      refine z_istore G dX10_chance_71 (Nat.le_of_ble_eq_true rfl) rfl ?_
      refine z_iload G dX10_chance_73 rfl ?_
      refine z_istore G dX10_chance_75 (Nat.le_of_ble_eq_true rfl) rfl ?_
      exact loopG q y av J hJ hq1 hq2 hk1 hk2 ae ab (6 ^ y) (6 ^ y) av _ (Nat.le_refl _) (by omega) (by omega) rfl
    | succ r ih =>
      intro y u hu hr
      refine z_iload G dX10_chance_50 rfl ?_
      refine z_iload_n G dX10_chance_52 rfl ?_
      refine z_icmp_ge G 69 dX10_chance_53 (by decide) (fun c => absurd c (by simp (disch := omega) only [iN_lit, iN_add, iN_sub, iN_mul, iN_an, iN_le, iN_lt, iN_eq, iN_of hu, iN_of hk1]; omega)) (fun _ => ?_)
      refine z_iload G dX10_chance_56 rfl ?_
      refine z_bipush G (v := 6) dX10_chance_58 (by decide) ?_
      refine z_imul G dX10_chance_60 ?_
      refine z_istore G dX10_chance_61 (Nat.le_of_ble_eq_true rfl) rfl ?_
      refine z_iinc G (v := 1) dX10_chance_63 (by decide) rfl rfl ?_
      refine z_goto G 50 dX10_chance_66 (by decide) ?_
      exact ih (y + 1) _ (by simp (disch := omega) only [iN_lit, iN_add, iN_sub, iN_mul, iN_an, iN_of hu]; exact iN_ti2 (by omega) (by omega)) (by omega)
  refine z_aload_n G dX10_chance_0 rfl ?_
  refine z_iload_n G dX10_chance_1 rfl ?_
  refine z_V G lk_X10_205 dX10_chance_2 [_] rfl rfl rfl (Nat.le_of_ble_eq_true rfl) ⟨Nat.le_refl _, Nat.le_refl _⟩ (by assumption) ?_
  refine k_X10_isPage hM (by rw [hw]; exact v1.1) v1.2.2 ?_ ?_
  · intro q hq1 hq2
    refine z_if_eq G 27 dX10_chance_5 (by decide) (fun c => absurd c (by decide)) (fun _ => ?_)
    refine z_iload_n G dX10_chance_8 rfl ?_
    refine z_iconst G (v := 0) dX10_chance_9 (by decide) ?_
    refine z_bipush G (v := 8) dX10_chance_10 (by decide) ?_
    refine z_S G lk_X10_62 dX10_chance_12 [_, _, _] rfl rfl rfl (Nat.le_of_ble_eq_true rfl) ⟨Nat.le_refl _, Nat.le_refl _⟩ ?_
    refine k_X10_in ?_ ?_
    · intro hin
      refine z_if_eq G 27 dX10_chance_15 (by decide) (fun c => absurd c (by decide)) (fun _ => ?_)
      refine z_iload_n G dX10_chance_18 rfl ?_
      refine z_iconst G (v := 0) dX10_chance_19 (by decide) ?_
      refine z_iconst G (v := 1) dX10_chance_20 (by decide) ?_
      refine z_S G lk_X10_62 dX10_chance_21 [_, _, _] rfl rfl rfl (Nat.le_of_ble_eq_true rfl) ⟨Nat.le_refl _, Nat.le_refl _⟩ ?_
      refine k_X10_in ?_ ?_
      · intro hin2
        refine z_if_ne G 30 dX10_chance_24 (by decide) (fun _ => ?_) (fun c => absurd c (by decide))
        obtain ⟨k, hk1, hk2⟩ : ∃ k : Nat, x.toInt = (k : Int) ∧ k ≤ 8 := ⟨x.toInt.toNat, by simp only [ti_lt, ti_le, Int32.reduceToInt] at hin; omega, by simp only [ti_lt, ti_le, Int32.reduceToInt] at hin; omega⟩
        obtain ⟨av, ae, ab⟩ := amt_N (s := p) (k := k) (q := q) v5 v1.2.2 (by omega) hk2 (by omega)
        refine z_aload_n G dX10_chance_30 rfl ?_
        refine z_iload_n G dX10_chance_31 rfl ?_
        refine z_iconst G (v := 1) dX10_chance_32 (by decide) ?_
        refine z_V G lk_X10_220 dX10_chance_33 [_, _] rfl rfl rfl (Nat.le_of_ble_eq_true rfl) ⟨Nat.le_refl _, Nat.le_refl _⟩ (by assumption) ?_
        refine k_X10_weighs (b := true) hM hw v1.1 v1.2.2 v5 hN hk1 (by omega) (fun J hJ hB => ?_)
        refine z_aload_n G dX10_chance_36 rfl ?_
        refine z_getR G fl_X10_44 rfl dX10_chance_37 (by assumption) (by assumption) ?_
        refine z_iload_n G dX10_chance_40 rfl ?_
        refine z_iald G (q) dX10_chance_41 (by assumption) (hq1) (by omega) ?_
        rw [hB q hq2, ae]
        refine z_istore G dX10_chance_42 (Nat.le_of_ble_eq_true rfl) rfl ?_
        refine z_iconst G (v := 1) dX10_chance_44 (by decide) ?_
        refine z_istore G dX10_chance_45 (Nat.le_of_ble_eq_true rfl) rfl ?_
        refine z_iconst G (v := 0) dX10_chance_47 (by decide) ?_
        refine z_istore G dX10_chance_48 (Nat.le_of_ble_eq_true rfl) rfl ?_
        exact loopB q k av J hJ hq1 hq2 hk1 hk2 ae ab k 0 0 rfl (by omega)
      · intro hin2
        refine z_if_ne G 30 dX10_chance_24 (by decide) (fun c => absurd c (by decide)) (fun _ => ?_)
        refine z_ldc G ct_X10_70 dX10_chance_27 ?_
        exact z_iret G hq dX10_chance_29 (hb (fun ⟨q, k, e, _, _, _, _, q1, q2⟩ => hin2 (by simp only [ti_lt, ti_le, Int32.reduceToInt]; omega)))
    · intro hin
      refine z_if_eq G 27 dX10_chance_15 (by decide) (fun _ => ?_) (fun c => absurd c (by decide))
      refine z_ldc G ct_X10_70 dX10_chance_27 ?_
      exact z_iret G hq dX10_chance_29 (hb (fun ⟨q, k, e, _, _, q1, q2, _, _⟩ => hin (by simp only [ti_lt, ti_le, Int32.reduceToInt]; omega)))
  · intro hno
    refine z_if_eq G 27 dX10_chance_5 (by decide) (fun _ => ?_) (fun c => absurd c (by decide))
    refine z_ldc G ct_X10_70 dX10_chance_27 ?_
    exact z_iret G hq dX10_chance_29 (hb (fun ⟨q, k, e, q1, q2, _⟩ => hno ⟨q, q1, q2⟩))
