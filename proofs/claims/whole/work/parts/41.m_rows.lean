set_option maxHeartbeats 1000000 in
set_option maxRecDepth 20000 in
theorem k_X9_copy {E : pmE} {d : Nat} {S : pmS} {I : pmI} {P : pmP} {R : Option Value → pmS → pmI → pmP → Prop} (hX : XG S P) (hth : ∀ k, k < 8 → I (596 + 2 * k) 1 = 0 ∨ I (596 + 2 * k) 1 = 1) (hsz : ∀ k, k < 8 → ∃ z : Nat, (I (596 + 2 * k) 3).toInt = (z : Int) ∧ z ≤ 40) {a i b j n : Int32} (hb : (¬ ∃ k l : Nat, a.toInt = (k : Int) ∧ k < 8 ∧ b.toInt = (l : Int) ∧ l < 8) → R (some (.int (-1000001))) S I P) (hm : ∀ k l : Nat, a.toInt = (k : Int) → k < 8 → b.toInt = (l : Int) → l < 8 → (I (596 + 2 * k) 1 = 0 ∨ I (596 + 2 * l) 1 = 0) → R (some (.int (-1000010 - 1))) S (va_up I 0 (va_up (I 0) 8 1)) P) (hs : ∀ k l : Nat, a.toInt = (k : Int) → k < 8 → b.toInt = (l : Int) → l < 8 → I (596 + 2 * k) 1 = 1 → I (596 + 2 * l) 1 = 1 → ¬ I (596 + 2 * k) 2 = I (596 + 2 * l) 2 → R (some (.int (-1000010 - 5))) S (va_up I 0 (va_up (I 0) 8 5)) P) (hp : ∀ k l : Nat, a.toInt = (k : Int) → k < 8 → b.toInt = (l : Int) → l < 8 → ∀ y z : Nat, I (596 + 2 * k) 1 = 1 → I (596 + 2 * l) 1 = 1 → I (596 + 2 * k) 2 = I (596 + 2 * l) 2 → (I (596 + 2 * k) 3).toInt = (y : Int) → y ≤ 40 → (I (596 + 2 * l) 3).toInt = (z : Int) → z ≤ 40 → ¬ (PL i n y ∧ PL j n z) → R (some (.int (-1000010 - 2))) S (va_up I 0 (va_up (I 0) 8 2)) P) (hok : ∀ k l : Nat, a.toInt = (k : Int) → k < 8 → b.toInt = (l : Int) → l < 8 → ∀ y z u v q : Nat, I (596 + 2 * k) 1 = 1 → I (596 + 2 * l) 1 = 1 → I (596 + 2 * k) 2 = I (596 + 2 * l) 2 → (I (596 + 2 * k) 3).toInt = (y : Int) → y ≤ 40 → (I (596 + 2 * l) 3).toInt = (z : Int) → z ≤ 40 → i.toInt = (u : Int) → j.toInt = (v : Int) → n.toInt = (q : Int) → u + q ≤ y → v + q ≤ z → R (some (.int n)) S (va_up (va_up I 0 (va_up (I 0) 8 0)) (597 + 2 * l) (va_cpy (I (597 + 2 * k)) (I (597 + 2 * l)) u v q)) P) : pmX E (d + 1) 0 0 yX9_copy [rr E 0, .int a, .int i, .int b, .int j, .int n] S I P R := by
  refine pm_of (by decide) cd_X9_copy (by decide) (by decide) (Nat.le_of_ble_eq_true rfl) ?_
  intro C G hq
  obtain ⟨⟨a0, a1, a2, a3, a4, a5, a6, a7, a8⟩, hRG, hRdG, hWG, hDG, ⟨z1, z2, z3, z4⟩, hIG, hFG, hAG⟩ := id hX
  obtain ⟨rg1, rg2⟩ := id hRG
  have RGk : ∀ k, k < 8 → RowG S P (596 + 2 * k) := fun k hk => by obtain ⟨q1, q2, q3, q4⟩ := rg2 k hk; exact ⟨q2, by rw [show 596 + 2 * k + 1 = 597 + 2 * k by omega]; exact q3, by rw [show 596 + 2 * k + 1 = 597 + 2 * k by omega]; exact q4⟩
  refine z_iload_n G dX9_copy_0 rfl ?_
  refine z_S G lk_X9_69 dX9_copy_1 [_] rfl rfl rfl (Nat.le_of_ble_eq_true rfl) ⟨Nat.le_refl _, Nat.le_refl _⟩ ?_
  refine k_X9_isRow ?_ ?_
  · intro k hk hk8
    refine z_if_eq G 14 dX9_copy_4 (by decide) (fun c => absurd c (by decide)) (fun _ => ?_)
    refine z_iload_n G dX9_copy_7 rfl ?_
    refine z_S G lk_X9_69 dX9_copy_8 [_] rfl rfl rfl (Nat.le_of_ble_eq_true rfl) ⟨Nat.le_refl _, Nat.le_refl _⟩ ?_
    refine k_X9_isRow ?_ ?_
    · intro l hl hl8
      refine z_if_ne G 17 dX9_copy_11 (by decide) (fun _ => ?_) (fun c => absurd c (by decide))
      refine z_aload_n G dX9_copy_17 rfl ?_
      refine z_getR G fl_X9_11 rfl dX9_copy_18 (by assumption) (by assumption) ?_
      refine z_iload_n G dX9_copy_21 rfl ?_
      refine z_aald G 4 (k) rfl (by decide) dX9_copy_22 rg1 (hk) (by omega) (rg2 k (by omega)).1 ?_
      refine z_astore G dX9_copy_23 (Nat.le_of_ble_eq_true rfl) rfl ?_
      refine z_aload_n G dX9_copy_25 rfl ?_
      refine z_getR G fl_X9_11 rfl dX9_copy_26 (by assumption) (by assumption) ?_
      refine z_iload_n G dX9_copy_29 rfl ?_
      refine z_aald G 4 (l) rfl (by decide) dX9_copy_30 rg1 (hl) (by omega) (rg2 l (by omega)).1 ?_
      refine z_astore G dX9_copy_31 (Nat.le_of_ble_eq_true rfl) rfl ?_
      refine z_aload G dX9_copy_33 rfl ?_
      refine z_getI G fl_X9_82 rfl dX9_copy_35 (RGk k hk8).1 ?_
      refine z_if_eq G 49 dX9_copy_38 (by decide) (fun b38 => ?_) (fun b38 => ?_)
      · refine z_aload_n G dX9_copy_49 rfl ?_
        refine z_iconst G (v := 1) dX9_copy_50 (by decide) ?_
        refine z_V G lk_X9_74 dX9_copy_51 [_] rfl rfl rfl (Nat.le_of_ble_eq_true rfl) ⟨Nat.le_refl _, Nat.le_refl _⟩ (by assumption) ?_
        refine k_X9_found hX ?_
        exact z_iret G hq dX9_copy_54 (hm k l hk hk8 hl hl8 (Or.inl b38))
      · refine z_aload G dX9_copy_41 rfl ?_
        refine z_getI G fl_X9_82 rfl dX9_copy_43 (RGk l hl8).1 ?_
        refine z_if_ne G 55 dX9_copy_46 (by decide) (fun b46 => ?_) (fun b46 => ?_)
        · have t1 : I (596 + 2 * k) 1 = 1 := (hth k hk8).resolve_left b38
          have t2 : I (596 + 2 * l) 1 = 1 := (hth l hl8).resolve_left b46
          obtain ⟨y, hy1, hy2⟩ := hsz k hk8
          obtain ⟨z, hz1, hz2⟩ := hsz l hl8
          refine z_aload G dX9_copy_55 rfl ?_
          refine z_getI G fl_X9_94 rfl dX9_copy_57 (RGk k hk8).1 ?_
          refine z_aload G dX9_copy_60 rfl ?_
          refine z_getI G fl_X9_94 rfl dX9_copy_62 (RGk l hl8).1 ?_
          refine z_icmp_eq G 74 dX9_copy_65 (by decide) (fun b65 => ?_) (fun b65 => ?_)
          · refine z_aload G dX9_copy_74 rfl ?_
            refine z_iload_n G dX9_copy_76 rfl ?_
            refine z_iload G dX9_copy_77 rfl ?_
            refine z_V G lk_X9_86 dX9_copy_79 [_, _] rfl rfl rfl (Nat.le_of_ble_eq_true rfl) ⟨Nat.le_refl _, Nat.le_refl _⟩ (RGk k hk8).1 ?_
            refine k_X6_hasPlaces (RGk k hk8).1 hy1 hy2 ?_ ?_
            · intro hp1
              refine z_if_eq G 97 dX9_copy_82 (by decide) (fun c => absurd c (by decide)) (fun _ => ?_)
              refine z_aload G dX9_copy_85 rfl ?_
              refine z_iload G dX9_copy_87 rfl ?_
              refine z_iload G dX9_copy_89 rfl ?_
              refine z_V G lk_X9_86 dX9_copy_91 [_, _] rfl rfl rfl (Nat.le_of_ble_eq_true rfl) ⟨Nat.le_refl _, Nat.le_refl _⟩ (RGk l hl8).1 ?_
              refine k_X6_hasPlaces (RGk l hl8).1 hz1 hz2 ?_ ?_
              · intro hp2
                refine z_if_ne G 103 dX9_copy_94 (by decide) (fun _ => ?_) (fun c => absurd c (by decide))
                obtain ⟨u, hu⟩ : ∃ u : Nat, i.toInt = (u : Int) := ⟨i.toInt.toNat, by have := hp1.1; omega⟩
                obtain ⟨v, hv⟩ : ∃ v : Nat, j.toInt = (v : Int) := ⟨j.toInt.toNat, by have := hp2.1; omega⟩
                obtain ⟨q, hq9⟩ : ∃ q : Nat, n.toInt = (q : Int) := ⟨n.toInt.toNat, by have := hp1.2.1; omega⟩
                have w1 := hp1.2.2
                have w2 := hp2.2.2
                refine z_aload_n G dX9_copy_103 rfl ?_
                refine z_iconst G (v := 0) dX9_copy_104 (by decide) ?_
                refine z_putI G fl_X9_63 ft_9_8 rfl rfl rfl dX9_copy_105 (by assumption) ?_
                refine z_aload G dX9_copy_108 rfl ?_
                refine z_getR G fl_X9_97 rfl dX9_copy_110 (RGk k hk8).1 (rg2 k hk8).2.2.1 ?_
                refine z_iload_n G dX9_copy_113 rfl ?_
                refine z_aload G dX9_copy_114 rfl ?_
                refine z_getR G fl_X9_97 rfl dX9_copy_116 (RGk l hl8).1 (rg2 l hl8).2.2.1 ?_
                refine z_iload G dX9_copy_119 rfl ?_
                refine z_iload G dX9_copy_121 rfl ?_
                refine z_copy G u v q ml_X9_101 ac_n ac_s ac_i dX9_copy_123 rfl (Nat.le_of_ble_eq_true rfl) (rg2 k hk8).2.2.2 (rg2 l hl8).2.2.2 hu hv hq9 (by omega) (by omega) ?_
                refine z_iload G dX9_copy_126 rfl ?_
                exact z_iret G hq dX9_copy_128 (by have := hok k l hk hk8 hl hl8 y z u v q t1 t2 b65 hy1 hy2 hz1 hz2 hu hv hq9 (by omega) (by omega); simp (disch := omega) only [va_ne']; exact this)
              · intro hp2
                refine z_if_ne G 103 dX9_copy_94 (by decide) (fun c => absurd c (by decide)) (fun _ => ?_)
                refine z_aload_n G dX9_copy_97 rfl ?_
                refine z_iconst G (v := 2) dX9_copy_98 (by decide) ?_
                refine z_V G lk_X9_74 dX9_copy_99 [_] rfl rfl rfl (Nat.le_of_ble_eq_true rfl) ⟨Nat.le_refl _, Nat.le_refl _⟩ (by assumption) ?_
                refine k_X9_found hX ?_
                exact z_iret G hq dX9_copy_102 (hp k l hk hk8 hl hl8 y z t1 t2 b65 hy1 hy2 hz1 hz2 (fun q => hp2 q.2))
            · intro hp1
              refine z_if_eq G 97 dX9_copy_82 (by decide) (fun _ => ?_) (fun c => absurd c (by decide))
              refine z_aload_n G dX9_copy_97 rfl ?_
              refine z_iconst G (v := 2) dX9_copy_98 (by decide) ?_
              refine z_V G lk_X9_74 dX9_copy_99 [_] rfl rfl rfl (Nat.le_of_ble_eq_true rfl) ⟨Nat.le_refl _, Nat.le_refl _⟩ (by assumption) ?_
              refine k_X9_found hX ?_
              exact z_iret G hq dX9_copy_102 (hp k l hk hk8 hl hl8 y z t1 t2 b65 hy1 hy2 hz1 hz2 (fun q => hp1 q.1))
          · refine z_aload_n G dX9_copy_68 rfl ?_
            refine z_iconst G (v := 5) dX9_copy_69 (by decide) ?_
            refine z_V G lk_X9_74 dX9_copy_70 [_] rfl rfl rfl (Nat.le_of_ble_eq_true rfl) ⟨Nat.le_refl _, Nat.le_refl _⟩ (by assumption) ?_
            refine k_X9_found hX ?_
            exact z_iret G hq dX9_copy_73 (hs k l hk hk8 hl hl8 t1 t2 b65)
        · refine z_aload_n G dX9_copy_49 rfl ?_
          refine z_iconst G (v := 1) dX9_copy_50 (by decide) ?_
          refine z_V G lk_X9_74 dX9_copy_51 [_] rfl rfl rfl (Nat.le_of_ble_eq_true rfl) ⟨Nat.le_refl _, Nat.le_refl _⟩ (by assumption) ?_
          refine k_X9_found hX ?_
          exact z_iret G hq dX9_copy_54 (hm k l hk hk8 hl hl8 (Or.inr b46))
    · intro hno
      refine z_if_ne G 17 dX9_copy_11 (by decide) (fun c => absurd c (by decide)) (fun _ => ?_)
      refine z_ldc G ct_X9_73 dX9_copy_14 ?_
      exact z_iret G hq dX9_copy_16 (hb (fun ⟨k, l, _, _, q1, q2⟩ => hno ⟨l, q1, q2⟩))
  · intro hno
    refine z_if_eq G 14 dX9_copy_4 (by decide) (fun _ => ?_) (fun c => absurd c (by decide))
    refine z_ldc G ct_X9_73 dX9_copy_14 ?_
    exact z_iret G hq dX9_copy_16 (hb (fun ⟨k, l, q1, q2, _⟩ => hno ⟨k, q1, q2⟩))
set_option maxHeartbeats 1000000 in
set_option maxRecDepth 20000 in
theorem k_X5_put {E : pmE} {d : Nat} {S : pmS} {I : pmI} {P : pmP} {R : Option Value → pmS → pmI → pmP → Prop} (hX : XG S P) {y : Nat} {letter : Int32} (hy : (I 2 3).toInt = (y : Int)) (hy80 : y ≤ 80) (h1 : y < 80 → R (some (.int 1)) S (va_up (va_up I 3 (va_up (I 3) y letter)) 2 (va_up (I 2) 3 (iN (y + 1)))) P) (h0 : ¬ y < 80 → R (some (.int 0)) S I P) : pmX E d 0 0 yX5_put [rr E 2, .int letter] S I P R := by
  refine pm_of (by decide) cd_X5_put (by decide) (by decide) (Nat.le_of_ble_eq_true rfl) ?_
  intro C G hq
  obtain ⟨⟨a0, a1, a2, a3, a4, a5, a6, a7, a8⟩, hRG, hRdG, hWG, hDG, ⟨z1, z2, z3, z4⟩, hIG, hFG, hAG⟩ := id hX
  obtain ⟨c1, c2, c3, c4, c5, c6, c7⟩ := id hRdG
  refine z_aload_n G dX5_put_0 rfl ?_
  refine z_getI G fl_X5_29 rfl dX5_put_1 (by assumption) ?_
  refine z_if_lt G 16 dX5_put_4 (by decide) (fun c => absurd c (by simp only [ti_lt, ti_le, Int32.reduceToInt, hy]; omega)) (fun _ => ?_)
  refine z_aload_n G dX5_put_7 rfl ?_
  refine z_getI G fl_X5_29 rfl dX5_put_8 (by assumption) ?_
  refine z_bipush G (v := 80) dX5_put_11 (by decide) ?_
  refine z_icmp_lt G 18 dX5_put_13 (by decide) (fun b13 => ?_) (fun b13 => ?_)
  · have hlt : y < 80 := by simp only [ti_lt, ti_le, Int32.reduceToInt, hy] at b13; omega
    refine z_aload_n G dX5_put_18 rfl ?_
    refine z_getR G fl_X5_9 rfl dX5_put_19 (by assumption) (by assumption) ?_
    refine z_aload_n G dX5_put_22 rfl ?_
    refine z_getI G fl_X5_29 rfl dX5_put_23 (by assumption) ?_
    refine z_iload_n G dX5_put_26 rfl ?_
    refine z_iast G (y) dX5_put_27 (by assumption) (hy) (by omega) ?_
    refine z_aload_n G dX5_put_28 rfl ?_
    refine z_dup G dX5_put_29 rfl ?_
    refine z_getI G fl_X5_29 rfl dX5_put_30 (by assumption) ?_
    try simp (disch := omega) only [va_at', va_ne', va_up_up]
    refine z_iconst G (v := 1) dX5_put_33 (by decide) ?_
    refine z_iadd G dX5_put_34 ?_
    refine z_top (y := iN (y + 1)) (by simp (disch := omega) only [iN_lit, iN_add, iN_sub, iN_mul, iN_an, iN_of hy] <;> exact congrArg iN (by omega)) ?_
    refine z_putI G fl_X5_29 ft_5_3 rfl rfl rfl dX5_put_35 (by assumption) ?_
    refine z_iconst G (v := 1) dX5_put_38 (by decide) ?_
    try simp (disch := omega) only [va_at', va_ne', va_up_up]
    exact z_zret G hq dX5_put_39 rfl (h1 hlt)
  · refine z_iconst G (v := 0) dX5_put_16 (by decide) ?_
    exact z_zret G hq dX5_put_17 rfl (h0 (by simp only [ti_lt, ti_le, Int32.reduceToInt, hy] at b13; omega))
set_option maxHeartbeats 1000000 in
set_option maxRecDepth 20000 in
theorem k_X9_feed {E : pmE} {d : Nat} {S : pmS} {I : pmI} {P : pmP} {R : Option Value → pmS → pmI → pmP → Prop} (hX : XG S P) {y : Nat} {letter : Int32} (hy : (I 2 3).toInt = (y : Int)) (hy80 : y ≤ 80) (hb : ¬ (0 ≤ letter.toInt ∧ letter.toInt ≤ 255) → R (some (.int (-1000001))) S I P) (hf : (0 ≤ letter.toInt ∧ letter.toInt ≤ 255) → ¬ y < 80 → R (some (.int (-1000003))) S I P) (hok : (0 ≤ letter.toInt ∧ letter.toInt ≤ 255) → y < 80 → R (some (.int (iN (y + 1)))) S (va_up (va_up I 3 (va_up (I 3) y letter)) 2 (va_up (I 2) 3 (iN (y + 1)))) P) : pmX E (d + 1) 0 0 yX9_feed [rr E 0, .int letter] S I P R := by
  refine pm_of (by decide) cd_X9_feed (by decide) (by decide) (Nat.le_of_ble_eq_true rfl) ?_
  intro C G hq
  obtain ⟨⟨a0, a1, a2, a3, a4, a5, a6, a7, a8⟩, hRG, hRdG, hWG, hDG, ⟨z1, z2, z3, z4⟩, hIG, hFG, hAG⟩ := id hX
  refine z_iload_n G dX9_feed_0 rfl ?_
  refine z_if_lt G 11 dX9_feed_1 (by decide) (fun b1 => ?_) (fun b1 => ?_)
  · refine z_ldc G ct_X9_73 dX9_feed_11 ?_
    exact z_iret G hq dX9_feed_13 (hb (by simp only [ti_lt, ti_le, Int32.reduceToInt] at *; omega))
  · refine z_iload_n G dX9_feed_4 rfl ?_
    refine z_sipush G (v := 255) dX9_feed_5 (by decide) ?_
    refine z_icmp_le G 14 dX9_feed_8 (by decide) (fun b8 => ?_) (fun b8 => ?_)
    · have hin : 0 ≤ letter.toInt ∧ letter.toInt ≤ 255 := by simp only [ti_lt, ti_le, Int32.reduceToInt] at *; omega
      refine z_aload_n G dX9_feed_14 rfl ?_
      refine z_getR G fl_X9_18 rfl dX9_feed_15 (by assumption) (by assumption) ?_
      refine z_iload_n G dX9_feed_18 rfl ?_
      refine z_V G lk_X9_110 dX9_feed_19 [_] rfl rfl rfl (Nat.le_of_ble_eq_true rfl) ⟨Nat.le_refl _, Nat.le_refl _⟩ hRdG.1 ?_
      refine k_X5_put hX hy hy80 ?_ ?_
      · intro hlt
        refine z_if_eq G 35 dX9_feed_22 (by decide) (fun c => absurd c (by decide)) (fun _ => ?_)
        refine z_aload_n G dX9_feed_25 rfl ?_
        refine z_getR G fl_X9_18 rfl dX9_feed_26 (by assumption) (by assumption) ?_
        refine z_getI G fl_X9_112 rfl dX9_feed_29 hRdG.1 ?_
        rw [va_up_self, va_up_self]
        refine z_goto G 37 dX9_feed_32 (by decide) ?_
        exact z_iret G hq dX9_feed_37 (hok hin hlt)
      · intro hlt
        refine z_if_eq G 35 dX9_feed_22 (by decide) (fun _ => ?_) (fun c => absurd c (by decide))
        refine z_ldc G ct_X9_115 dX9_feed_35 ?_
        exact z_iret G hq dX9_feed_37 (hf hin hlt)
    · refine z_ldc G ct_X9_73 dX9_feed_11 ?_
      exact z_iret G hq dX9_feed_13 (hb (by simp only [ti_lt, ti_le, Int32.reduceToInt] at *; omega))
set_option maxHeartbeats 1000000 in
set_option maxRecDepth 20000 in
theorem k_X10_status {E : pmE} {d : Nat} {S : pmS} {I : pmI} {P : pmP} {R : Option Value → pmS → pmI → pmP → Prop} {m : Nat} (hM : MG S P m) (h : R (some (.int (I m 4))) S I P) : pmX E d 0 0 yX10_status [rr E m] S I P R := by
  refine pm_of (by decide) cd_X10_status (by decide) (by decide) (Nat.le_of_ble_eq_true rfl) ?_
  intro C G hq
  obtain ⟨g0, ⟨r0, r1, r2, r3, r4, r5, r6, r7, r8, r9, r10, r11, r12, r13, r14⟩, ⟨s1, s2, s3, s4, s5, s6, s7, s8, s9, s10, s11, s12, s13, s14, s15⟩⟩ := id hM
  refine z_aload_n G dX10_status_0 rfl ?_
  refine z_getI G fl_X10_57 rfl dX10_status_1 (by assumption) ?_
  exact z_iret G hq dX10_status_4 (h)
set_option maxHeartbeats 1000000 in
set_option maxRecDepth 20000 in
theorem k_X10_cut {E : pmE} {d : Nat} {S : pmS} {I : pmI} {P : pmP} {R : Option Value → pmS → pmI → pmP → Prop} {lane v : Int32} (h : R (some (.int (cutF lane v))) S I P) : pmX E d 0 0 yX10_cut [.int lane, .int v] S I P R := by
  refine pm_of (by decide) cd_X10_cut (by decide) (by decide) (Nat.le_of_ble_eq_true rfl) ?_
  intro C G hq
  refine z_iload_n G dX10_cut_0 rfl ?_
  refine z_if_ne G 14 dX10_cut_1 (by decide) (fun b1 => ?_) (fun b1 => ?_)
  · refine z_iload_n G dX10_cut_14 rfl ?_
    refine z_iconst G (v := 1) dX10_cut_15 (by decide) ?_
    refine z_icmp_ne G 29 dX10_cut_16 (by decide) (fun b16 => ?_) (fun b16 => ?_)
    · refine z_iload_n G dX10_cut_29 rfl ?_
      exact z_iret G hq dX10_cut_30 (by unfold cutF at h; rw [if_neg b1, if_neg b16] at h; exact h)
    · refine z_iload_n G dX10_cut_19 rfl ?_
      refine z_bipush G (v := 16) dX10_cut_20 (by decide) ?_
      refine z_ishl G dX10_cut_22 ?_
      refine z_bipush G (v := 16) dX10_cut_23 (by decide) ?_
      refine z_ishr G dX10_cut_25 ?_
      refine z_goto G 30 dX10_cut_26 (by decide) ?_
      exact z_iret G hq dX10_cut_30 (by rw [cut16]; unfold cutF at h; rw [if_neg b1, if_pos b16] at h; exact h)
  · refine z_iload_n G dX10_cut_4 rfl ?_
    refine z_bipush G (v := 24) dX10_cut_5 (by decide) ?_
    refine z_ishl G dX10_cut_7 ?_
    refine z_bipush G (v := 24) dX10_cut_8 (by decide) ?_
    refine z_ishr G dX10_cut_10 ?_
    refine z_goto G 30 dX10_cut_11 (by decide) ?_
    exact z_iret G hq dX10_cut_30 (by rw [cut8]; unfold cutF at h; rw [if_pos b1] at h; exact h)
set_option maxHeartbeats 1000000 in
set_option maxRecDepth 20000 in
theorem k_X10_isPart {E : pmE} {d : Nat} {S : pmS} {I : pmI} {P : pmP} {R : Option Value → pmS → pmI → pmP → Prop} {m : Nat} (hM : MG S P m) {k z : Nat} {r i n : Int32} (hr : r.toInt = (k : Int)) (hk8 : k < 8) (hz : (I (m + 2) k).toInt = (z : Int)) (hz40 : z ≤ 40) (h1 : PL i n z → R (some (.int 1)) S I P) (h0 : ¬ PL i n z → R (some (.int 0)) S I P) : pmX E d 0 0 yX10_isPart [rr E m, .int r, .int i, .int n] S I P R := by
  refine pm_of (by decide) cd_X10_isPart (by decide) (by decide) (Nat.le_of_ble_eq_true rfl) ?_
  intro C G hq
  obtain ⟨g0, ⟨r0, r1, r2, r3, r4, r5, r6, r7, r8, r9, r10, r11, r12, r13, r14⟩, ⟨s1, s2, s3, s4, s5, s6, s7, s8, s9, s10, s11, s12, s13, s14, s15⟩⟩ := id hM
  refine z_iload_n G dX10_isPart_0 rfl ?_
  refine z_if_lt G 34 dX10_isPart_1 (by decide) (fun b1 => ?_) (fun b1 => ?_)
  · refine z_iconst G (v := 0) dX10_isPart_34 (by decide) ?_
    exact z_zret G hq dX10_isPart_35 rfl (h0 (fun ⟨q1, q2, q3⟩ => by simp only [ti_lt, ti_le, Int32.reduceToInt, ti_sub, hz] at *; omega))
  · refine z_iload_n G dX10_isPart_4 rfl ?_
    refine z_if_lt G 34 dX10_isPart_5 (by decide) (fun b5 => ?_) (fun b5 => ?_)
    · refine z_iconst G (v := 0) dX10_isPart_34 (by decide) ?_
      exact z_zret G hq dX10_isPart_35 rfl (h0 (fun ⟨q1, q2, q3⟩ => by simp only [ti_lt, ti_le, Int32.reduceToInt, ti_sub, hz] at *; omega))
    · refine z_iload_n G dX10_isPart_8 rfl ?_
      refine z_aload_n G dX10_isPart_9 rfl ?_
      refine z_getR G fl_X10_13 rfl dX10_isPart_10 (by assumption) (by assumption) ?_
      refine z_iload_n G dX10_isPart_13 rfl ?_
      refine z_iald G (k) dX10_isPart_14 (by assumption) (hr) (by omega) ?_
      refine z_icmp_gt G 34 dX10_isPart_15 (by decide) (fun b15 => ?_) (fun b15 => ?_)
      · refine z_iconst G (v := 0) dX10_isPart_34 (by decide) ?_
        exact z_zret G hq dX10_isPart_35 rfl (h0 (fun ⟨q1, q2, q3⟩ => by simp only [ti_lt, ti_le, Int32.reduceToInt, ti_sub, hz] at *; omega))
      · refine z_iload_n G dX10_isPart_18 rfl ?_
        refine z_aload_n G dX10_isPart_19 rfl ?_
        refine z_getR G fl_X10_13 rfl dX10_isPart_20 (by assumption) (by assumption) ?_
        refine z_iload_n G dX10_isPart_23 rfl ?_
        refine z_iald G (k) dX10_isPart_24 (by assumption) (hr) (by omega) ?_
        refine z_iload_n G dX10_isPart_25 rfl ?_
        refine z_isub G dX10_isPart_26 ?_
        refine z_icmp_gt G 34 dX10_isPart_27 (by decide) (fun b27 => ?_) (fun b27 => ?_)
        · refine z_iconst G (v := 0) dX10_isPart_34 (by decide) ?_
          exact z_zret G hq dX10_isPart_35 rfl (h0 (fun ⟨q1, q2, q3⟩ => by simp only [ti_lt, ti_le, Int32.reduceToInt, ti_sub, hz] at *; omega))
        · refine z_iconst G (v := 1) dX10_isPart_30 (by decide) ?_
          refine z_goto G 35 dX10_isPart_31 (by decide) ?_
          exact z_zret G hq dX10_isPart_35 rfl (h1 ⟨by simp only [ti_lt, ti_le, Int32.reduceToInt, ti_sub, hz] at *; omega, by simp only [ti_lt, ti_le, Int32.reduceToInt, ti_sub, hz] at *; omega, by simp only [ti_lt, ti_le, Int32.reduceToInt, ti_sub, hz] at *; omega⟩)
set_option maxHeartbeats 1000000 in
set_option maxRecDepth 20000 in
theorem k_X10_row {E : pmE} {d : Nat} {S : pmS} {I : pmI} {P : pmP} {R : Option Value → pmS → pmI → pmP → Prop} {m : Nat} (hM : MG S P m) {r lane n : Int32} (hb : ¬ RowOK r lane n → R (some (.int (-1000001))) S I P) (hn : RowOK r lane n → n.toInt < 0 → R (some (.int (-1000010 - 4))) S (va_up I m (va_up (I m) 4 4)) P) (hok : ∀ k l z : Nat, r.toInt = (k : Int) → k < 8 → lane.toInt = (l : Int) → l ≤ 2 → n.toInt = (z : Int) → z ≤ 40 → ∀ I', (∀ q, q ≠ m → q ≠ m + 1 → q ≠ m + 2 → q ≠ m + 3 → I' q = I q) → I' m = va_up (I m) 4 0 → I' (m + 1) = va_up (I (m + 1)) k lane → I' (m + 2) = va_up (I (m + 2)) k n → (∀ i, i < 40 → I' (m + 3) (40 * k + i) = 0) → (∀ i, i < 40 * k ∨ 40 * k + 40 ≤ i → I' (m + 3) i = I (m + 3) i) → R (some (.int n)) S I' P) : pmX E (d + 2) 0 0 yX10_row [rr E m, .int r, .int lane, .int n] S I P R := by
  refine pm_of (by decide) cd_X10_row (by decide) (by decide) (Nat.le_of_ble_eq_true rfl) ?_
  intro C G hq
  obtain ⟨g0, ⟨r0, r1, r2, r3, r4, r5, r6, r7, r8, r9, r10, r11, r12, r13, r14⟩, ⟨s1, s2, s3, s4, s5, s6, s7, s8, s9, s10, s11, s12, s13, s14, s15⟩⟩ := id hM
  have loop : ∀ (s k z l : Nat), r.toInt = (k : Int) → k < 8 → lane.toInt = (l : Int) → l ≤ 2 → n.toInt = (z : Int) → z ≤ 40 → ∀ (y : Nat) (x : Int32) (J : pmI), x.toInt = (y : Int) → y + s = 40 → (∀ q, q ≠ m + 1 → q ≠ m + 2 → q ≠ m + 3 → J q = I q) → J (m + 1) = va_up (I (m + 1)) k lane → J (m + 2) = va_up (I (m + 2)) k n → (∀ i, i < y → J (m + 3) (40 * k + i) = 0) → (∀ i, i < 40 * k ∨ 40 * k + 40 ≤ i → J (m + 3) i = I (m + 3) i) → pmZ E C 52 [some (rr E m), some (.int r), some (.int lane), some (.int n), some (.int x)] [] S J P 0 0 := by
    intro s
    induction s with
    | zero =>
      intro k z l hr hk8 hl1 hl2 hz1 hz2 y x J hx hy f1 e1 e2 e3 e4
      obtain rfl : y = 40 := by omega
      refine z_iload G dX10_row_52 rfl ?_
      refine z_bipush G (v := 40) dX10_row_54 (by decide) ?_
      refine z_icmp_ge G 78 dX10_row_56 (by decide) (fun _ => ?_) (fun c => absurd c (fun z => z (by simp (disch := omega) only [iN_lit, iN_add, iN_sub, iN_mul, iN_an, iN_le, iN_lt, iN_eq, iN_of hx] <;> omega)))
      refine z_aload_n G dX10_row_78 rfl ?_
      refine z_iload_n G dX10_row_79 rfl ?_
      refine z_V G lk_X10_75 dX10_row_80 [_] rfl rfl rfl (Nat.le_of_ble_eq_true rfl) ⟨Nat.le_refl _, Nat.le_refl _⟩ (by assumption) ?_
      refine k_X10_well hM ?_
      exact z_iret G hq dX10_row_83 (hok k l z hr hk8 hl1 hl2 hz1 hz2 _ (fun q q0 q1 q2 q3 => by rw [va_ne' q0]; exact f1 q q1 q2 q3) (by rw [va_at' rfl, f1 m (by omega) (by omega) (by omega)]) (by rw [va_ne' (by omega)]; exact e1) (by rw [va_ne' (by omega)]; exact e2) (fun i hi => by rw [va_ne' (by omega)]; exact e3 i hi) (fun i hi => by rw [va_ne' (by omega)]; exact e4 i hi))
    | succ s ih =>
      intro k z l hr hk8 hl1 hl2 hz1 hz2 y x J hx hy f1 e1 e2 e3 e4
      refine z_iload G dX10_row_52 rfl ?_
      refine z_bipush G (v := 40) dX10_row_54 (by decide) ?_
      refine z_icmp_ge G 78 dX10_row_56 (by decide) (fun c => absurd c (by simp (disch := omega) only [iN_lit, iN_add, iN_sub, iN_mul, iN_an, iN_le, iN_lt, iN_eq, iN_of hx]; omega)) (fun _ => ?_)
      refine z_aload_n G dX10_row_59 rfl ?_
      refine z_getR G fl_X10_16 rfl dX10_row_60 (by assumption) (by assumption) ?_
      refine z_bipush G (v := 40) dX10_row_63 (by decide) ?_
      refine z_iload_n G dX10_row_65 rfl ?_
      refine z_imul G dX10_row_66 ?_
      refine z_iload G dX10_row_67 rfl ?_
      refine z_iadd G dX10_row_69 ?_
      refine z_iconst G (v := 0) dX10_row_70 (by decide) ?_
      refine z_iast G (40 * k + y) dX10_row_71 (by assumption) (by simp (disch := omega) only [iN_lit, iN_add, iN_sub, iN_mul, iN_an, iN_of hr, iN_of hx]; exact iN_ti2 (by omega) (by omega)) (by omega) ?_
      refine z_iinc G (v := 1) dX10_row_72 (by decide) rfl rfl ?_
      refine z_goto G 52 dX10_row_75 (by decide) ?_
      refine ih k z l hr hk8 hl1 hl2 hz1 hz2 (y + 1) _ _ (by simp (disch := omega) only [iN_lit, iN_add, iN_sub, iN_mul, iN_an, iN_of hx]; exact iN_ti2 (by omega) (by omega)) (by omega) (fun q q1 q2 q3 => by rw [va_ne' q3]; exact f1 q q1 q2 q3) (by rw [va_ne' (by omega)]; exact e1) (by rw [va_ne' (by omega)]; exact e2) (fun i hi => ?_) (fun i hi => by rw [va_up_self, va_ne' (by omega)]; exact e4 i hi)
      rw [va_up_self]
      by_cases hik : i = y
      · rw [va_at' (by omega)]
      · rw [va_ne' (by omega)]; exact e3 i (by omega)
  refine z_iload_n G dX10_row_0 rfl ?_
  refine z_S G lk_X10_66 dX10_row_1 [_] rfl rfl rfl (Nat.le_of_ble_eq_true rfl) ⟨Nat.le_refl _, Nat.le_refl _⟩ ?_
  refine k_X10_isRow ?_ ?_
  · intro k hk hk8
    refine z_if_eq G 22 dX10_row_4 (by decide) (fun c => absurd c (by decide)) (fun _ => ?_)
    refine z_iload_n G dX10_row_7 rfl ?_
    refine z_iconst G (v := 0) dX10_row_8 (by decide) ?_
    refine z_iconst G (v := 2) dX10_row_9 (by decide) ?_
    refine z_S G lk_X10_62 dX10_row_10 [_, _, _] rfl rfl rfl (Nat.le_of_ble_eq_true rfl) ⟨Nat.le_refl _, Nat.le_refl _⟩ ?_
    refine k_X10_in ?_ ?_
    · intro hin
      refine z_if_eq G 22 dX10_row_13 (by decide) (fun c => absurd c (by decide)) (fun _ => ?_)
      refine z_iload_n G dX10_row_16 rfl ?_
      refine z_bipush G (v := 40) dX10_row_17 (by decide) ?_
      refine z_icmp_le G 25 dX10_row_19 (by decide) (fun b19 => ?_) (fun b19 => ?_)
      · obtain ⟨l, hl1, hl2⟩ : ∃ l : Nat, lane.toInt = (l : Int) ∧ l ≤ 2 := ⟨lane.toInt.toNat, by simp only [ti_lt, ti_le, Int32.reduceToInt] at *; omega, by simp only [ti_lt, ti_le, Int32.reduceToInt] at *; omega⟩
        have hn40 : n.toInt ≤ 40 := by simp only [ti_lt, ti_le, Int32.reduceToInt] at *; omega
        refine z_iload_n G dX10_row_25 rfl ?_
        refine z_if_ge G 35 dX10_row_26 (by decide) (fun b26 => ?_) (fun b26 => ?_)
        · obtain ⟨z, hz1, hz2⟩ : ∃ z : Nat, n.toInt = (z : Int) ∧ z ≤ 40 := ⟨n.toInt.toNat, by simp only [ti_lt, ti_le, Int32.reduceToInt] at *; omega, by simp only [ti_lt, ti_le, Int32.reduceToInt] at *; omega⟩
          refine z_aload_n G dX10_row_35 rfl ?_
          refine z_getR G fl_X10_7 rfl dX10_row_36 (by assumption) (by assumption) ?_
          refine z_iload_n G dX10_row_39 rfl ?_
          refine z_iload_n G dX10_row_40 rfl ?_
          refine z_iast G (k) dX10_row_41 (by assumption) (hk) (by omega) ?_
          refine z_aload_n G dX10_row_42 rfl ?_
          refine z_getR G fl_X10_13 rfl dX10_row_43 (by assumption) (by assumption) ?_
          refine z_iload_n G dX10_row_46 rfl ?_
          refine z_iload_n G dX10_row_47 rfl ?_
          refine z_iast G (k) dX10_row_48 (by assumption) (hk) (by omega) ?_
          refine z_iconst G (v := 0) dX10_row_49 (by decide) ?_
          refine z_istore G dX10_row_50 (Nat.le_of_ble_eq_true rfl) rfl ?_
          exact loop 40 k z l hk hk8 hl1 hl2 hz1 hz2 0 0 _ rfl (by omega) (fun q q1 q2 q3 => by simp (disch := omega) only [va_at', va_ne', va_up_up]) (by simp (disch := omega) only [va_at', va_ne', va_up_up]) (by simp (disch := omega) only [va_at', va_ne', va_up_up]) (fun i hi => absurd hi (by omega)) (fun i hi => by simp (disch := omega) only [va_at', va_ne', va_up_up])
        · refine z_aload_n G dX10_row_29 rfl ?_
          refine z_iconst G (v := 4) dX10_row_30 (by decide) ?_
          refine z_V G lk_X10_71 dX10_row_31 [_] rfl rfl rfl (Nat.le_of_ble_eq_true rfl) ⟨Nat.le_refl _, Nat.le_refl _⟩ (by assumption) ?_
          refine k_X10_found hM ?_
          exact z_iret G hq dX10_row_34 (hn ⟨⟨k, hk, hk8⟩, ⟨l, hl1, hl2⟩, hn40⟩ (by simp only [ti_lt, ti_le, Int32.reduceToInt] at *; omega))
      · refine z_ldc G ct_X10_70 dX10_row_22 ?_
        exact z_iret G hq dX10_row_24 (hb (fun ⟨_, _, q3⟩ => by simp only [ti_lt, ti_le, Int32.reduceToInt] at *; omega))
    · intro hin
      refine z_if_eq G 22 dX10_row_13 (by decide) (fun _ => ?_) (fun c => absurd c (by decide))
      refine z_ldc G ct_X10_70 dX10_row_22 ?_
      exact z_iret G hq dX10_row_24 (hb (fun ⟨_, ⟨l, q1, q2⟩, _⟩ => hin (by simp only [ti_lt, ti_le, Int32.reduceToInt]; omega)))
  · intro hno
    refine z_if_eq G 22 dX10_row_4 (by decide) (fun _ => ?_) (fun c => absurd c (by decide))
    refine z_ldc G ct_X10_70 dX10_row_22 ?_
    exact z_iret G hq dX10_row_24 (hb (fun q => hno q.1))
set_option maxHeartbeats 1000000 in
set_option maxRecDepth 20000 in
theorem k_X10_set {E : pmE} {d : Nat} {S : pmS} {I : pmI} {P : pmP} {R : Option Value → pmS → pmI → pmP → Prop} {m : Nat} (hM : MG S P m) (hsz : ∀ k, k < 8 → ∃ z : Nat, (I (m + 2) k).toInt = (z : Int) ∧ z ≤ 40) {r i v : Int32} (hb : (¬ ∃ k : Nat, r.toInt = (k : Int) ∧ k < 8) → R (some (.int (-1000001))) S I P) (hm : ∀ k : Nat, r.toInt = (k : Int) → k < 8 → I (m + 1) k = -1000000 → R (some (.int (-1000010 - 1))) S (va_up I m (va_up (I m) 4 1)) P) (hp : ∀ k z : Nat, r.toInt = (k : Int) → k < 8 → ¬ I (m + 1) k = -1000000 → (I (m + 2) k).toInt = (z : Int) → z ≤ 40 → ¬ PL i 1 z → R (some (.int (-1000010 - 2))) S (va_up I m (va_up (I m) 4 2)) P) (hok : ∀ k z j : Nat, r.toInt = (k : Int) → k < 8 → ¬ I (m + 1) k = -1000000 → (I (m + 2) k).toInt = (z : Int) → z ≤ 40 → i.toInt = (j : Int) → j < z → R (some (.int (cutF (I (m + 1) k) v))) S (va_up (va_up I (m + 3) (va_up (I (m + 3)) (40 * k + j) (cutF (I (m + 1) k) v))) m (va_up (I m) 4 0)) P) : pmX E (d + 2) 0 0 yX10_set [rr E m, .int r, .int i, .int v] S I P R := by
  refine pm_of (by decide) cd_X10_set (by decide) (by decide) (Nat.le_of_ble_eq_true rfl) ?_
  intro C G hq
  obtain ⟨g0, ⟨r0, r1, r2, r3, r4, r5, r6, r7, r8, r9, r10, r11, r12, r13, r14⟩, ⟨s1, s2, s3, s4, s5, s6, s7, s8, s9, s10, s11, s12, s13, s14, s15⟩⟩ := id hM
  refine z_iload_n G dX10_set_0 rfl ?_
  refine z_S G lk_X10_66 dX10_set_1 [_] rfl rfl rfl (Nat.le_of_ble_eq_true rfl) ⟨Nat.le_refl _, Nat.le_refl _⟩ ?_
  refine k_X10_isRow ?_ ?_
  · intro k hk hk8
    refine z_if_ne G 10 dX10_set_4 (by decide) (fun _ => ?_) (fun c => absurd c (by decide))
    refine z_aload_n G dX10_set_10 rfl ?_
    refine z_iload_n G dX10_set_11 rfl ?_
    refine z_V G lk_X10_78 dX10_set_12 [_] rfl rfl rfl (Nat.le_of_ble_eq_true rfl) ⟨Nat.le_refl _, Nat.le_refl _⟩ (by assumption) ?_
    refine k_X10_isMissing hM hk hk8 ?_ ?_
    · intro hmi
      refine z_if_eq G 24 dX10_set_15 (by decide) (fun c => absurd c (by decide)) (fun _ => ?_)
      refine z_aload_n G dX10_set_18 rfl ?_
      refine z_iconst G (v := 1) dX10_set_19 (by decide) ?_
      refine z_V G lk_X10_71 dX10_set_20 [_] rfl rfl rfl (Nat.le_of_ble_eq_true rfl) ⟨Nat.le_refl _, Nat.le_refl _⟩ (by assumption) ?_
      refine k_X10_found hM ?_
      exact z_iret G hq dX10_set_23 (hm k hk hk8 hmi)
    · intro hmi
      refine z_if_eq G 24 dX10_set_15 (by decide) (fun _ => ?_) (fun c => absurd c (by decide))
      obtain ⟨z, hz1, hz2⟩ := hsz k hk8
      refine z_iload_n G dX10_set_24 rfl ?_
      refine z_iconst G (v := 0) dX10_set_25 (by decide) ?_
      refine z_aload_n G dX10_set_26 rfl ?_
      refine z_getR G fl_X10_13 rfl dX10_set_27 (by assumption) (by assumption) ?_
      refine z_iload_n G dX10_set_30 rfl ?_
      refine z_iald G (k) dX10_set_31 (by assumption) (hk) (by omega) ?_
      refine z_iconst G (v := 1) dX10_set_32 (by decide) ?_
      refine z_isub G dX10_set_33 ?_
      refine z_S G lk_X10_62 dX10_set_34 [_, _, _] rfl rfl rfl (Nat.le_of_ble_eq_true rfl) ⟨Nat.le_refl _, Nat.le_refl _⟩ ?_
      refine k_X10_in ?_ ?_
      · intro hin
        refine z_if_ne G 46 dX10_set_37 (by decide) (fun _ => ?_) (fun c => absurd c (by decide))
        obtain ⟨j, hj1, hj2⟩ : ∃ j : Nat, i.toInt = (j : Int) ∧ j < z := ⟨i.toInt.toNat, by simp only [ti_lt, ti_le, Int32.reduceToInt, ti_sub, hz1] at hin; omega, by simp only [ti_lt, ti_le, Int32.reduceToInt, ti_sub, hz1] at hin; omega⟩
        refine z_aload_n G dX10_set_46 rfl ?_
        refine z_getR G fl_X10_16 rfl dX10_set_47 (by assumption) (by assumption) ?_
        refine z_bipush G (v := 40) dX10_set_50 (by decide) ?_
        refine z_iload_n G dX10_set_52 rfl ?_
        refine z_imul G dX10_set_53 ?_
        refine z_iload_n G dX10_set_54 rfl ?_
        refine z_iadd G dX10_set_55 ?_
        refine z_aload_n G dX10_set_56 rfl ?_
        refine z_getR G fl_X10_7 rfl dX10_set_57 (by assumption) (by assumption) ?_
        refine z_iload_n G dX10_set_60 rfl ?_
        refine z_iald G (k) dX10_set_61 (by assumption) (hk) (by omega) ?_
        refine z_iload_n G dX10_set_62 rfl ?_
        refine z_S G lk_X10_81 dX10_set_63 [_, _] rfl rfl rfl (Nat.le_of_ble_eq_true rfl) ⟨Nat.le_refl _, Nat.le_refl _⟩ ?_
        refine k_X10_cut ?_
        refine z_iast G (40 * k + j) dX10_set_66 (by assumption) (by simp (disch := omega) only [iN_lit, iN_add, iN_sub, iN_mul, iN_an, iN_of hk, iN_of hj1]; exact iN_ti2 (by omega) (by omega)) (by omega) ?_
        refine z_aload_n G dX10_set_67 rfl ?_
        refine z_aload_n G dX10_set_68 rfl ?_
        refine z_getR G fl_X10_16 rfl dX10_set_69 (by assumption) (by assumption) ?_
        refine z_bipush G (v := 40) dX10_set_72 (by decide) ?_
        refine z_iload_n G dX10_set_74 rfl ?_
        refine z_imul G dX10_set_75 ?_
        refine z_iload_n G dX10_set_76 rfl ?_
        refine z_iadd G dX10_set_77 ?_
        refine z_iald G (40 * k + j) dX10_set_78 (by assumption) (by simp (disch := omega) only [iN_lit, iN_add, iN_sub, iN_mul, iN_an, iN_of hk, iN_of hj1]; exact iN_ti2 (by omega) (by omega)) (by omega) ?_
        rw [va_up_self, va_up_self]
        refine z_V G lk_X10_75 dX10_set_79 [_] rfl rfl rfl (Nat.le_of_ble_eq_true rfl) ⟨Nat.le_refl _, Nat.le_refl _⟩ (by assumption) ?_
        refine k_X10_well hM ?_
        exact z_iret G hq dX10_set_82 (by have := hok k z j hk hk8 hmi hz1 hz2 hj1 hj2; rw [va_ne' (by omega)]; exact this)
      · intro hin
        refine z_if_ne G 46 dX10_set_37 (by decide) (fun c => absurd c (by decide)) (fun _ => ?_)
        refine z_aload_n G dX10_set_40 rfl ?_
        refine z_iconst G (v := 2) dX10_set_41 (by decide) ?_
        refine z_V G lk_X10_71 dX10_set_42 [_] rfl rfl rfl (Nat.le_of_ble_eq_true rfl) ⟨Nat.le_refl _, Nat.le_refl _⟩ (by assumption) ?_
        refine k_X10_found hM ?_
        exact z_iret G hq dX10_set_45 (hp k z hk hk8 hmi hz1 hz2 (fun ⟨q1, q2, q3⟩ => hin (by simp only [ti_lt, ti_le, Int32.reduceToInt, ti_sub, hz1] at *; omega)))
  · intro hno
    refine z_if_ne G 10 dX10_set_4 (by decide) (fun c => absurd c (by decide)) (fun _ => ?_)
    refine z_ldc G ct_X10_70 dX10_set_7 ?_
    exact z_iret G hq dX10_set_9 (hb hno)
set_option maxHeartbeats 1000000 in
set_option maxRecDepth 20000 in
theorem k_X10_drop {E : pmE} {d : Nat} {S : pmS} {I : pmI} {P : pmP} {R : Option Value → pmS → pmI → pmP → Prop} {m : Nat} (hM : MG S P m) {r : Int32} (hb : (¬ ∃ k : Nat, r.toInt = (k : Int) ∧ k < 8) → R (some (.int (-1000001))) S I P) (hm : ∀ k : Nat, r.toInt = (k : Int) → k < 8 → I (m + 1) k = -1000000 → R (some (.int (-1000010 - 1))) S (va_up I m (va_up (I m) 4 1)) P) (hok : ∀ k : Nat, r.toInt = (k : Int) → k < 8 → ¬ I (m + 1) k = -1000000 → R (some (.int (I (m + 2) k))) S (va_up (va_up I (m + 1) (va_up (I (m + 1)) k (-1000000))) m (va_up (I m) 4 0)) P) : pmX E (d + 2) 0 0 yX10_drop [rr E m, .int r] S I P R := by
  refine pm_of (by decide) cd_X10_drop (by decide) (by decide) (Nat.le_of_ble_eq_true rfl) ?_
  intro C G hq
  obtain ⟨g0, ⟨r0, r1, r2, r3, r4, r5, r6, r7, r8, r9, r10, r11, r12, r13, r14⟩, ⟨s1, s2, s3, s4, s5, s6, s7, s8, s9, s10, s11, s12, s13, s14, s15⟩⟩ := id hM
  refine z_iload_n G dX10_drop_0 rfl ?_
  refine z_S G lk_X10_66 dX10_drop_1 [_] rfl rfl rfl (Nat.le_of_ble_eq_true rfl) ⟨Nat.le_refl _, Nat.le_refl _⟩ ?_
  refine k_X10_isRow ?_ ?_
  · intro k hk hk8
    refine z_if_ne G 10 dX10_drop_4 (by decide) (fun _ => ?_) (fun c => absurd c (by decide))
    refine z_aload_n G dX10_drop_10 rfl ?_
    refine z_iload_n G dX10_drop_11 rfl ?_
    refine z_V G lk_X10_78 dX10_drop_12 [_] rfl rfl rfl (Nat.le_of_ble_eq_true rfl) ⟨Nat.le_refl _, Nat.le_refl _⟩ (by assumption) ?_
    refine k_X10_isMissing hM hk hk8 ?_ ?_
    · intro hmi
      refine z_if_eq G 24 dX10_drop_15 (by decide) (fun c => absurd c (by decide)) (fun _ => ?_)
      refine z_aload_n G dX10_drop_18 rfl ?_
      refine z_iconst G (v := 1) dX10_drop_19 (by decide) ?_
      refine z_V G lk_X10_71 dX10_drop_20 [_] rfl rfl rfl (Nat.le_of_ble_eq_true rfl) ⟨Nat.le_refl _, Nat.le_refl _⟩ (by assumption) ?_
      refine k_X10_found hM ?_
      exact z_iret G hq dX10_drop_23 (hm k hk hk8 hmi)
    · intro hmi
      refine z_if_eq G 24 dX10_drop_15 (by decide) (fun _ => ?_) (fun c => absurd c (by decide))
      refine z_aload_n G dX10_drop_24 rfl ?_
      refine z_getR G fl_X10_7 rfl dX10_drop_25 (by assumption) (by assumption) ?_
      refine z_iload_n G dX10_drop_28 rfl ?_
      refine z_ldc G ct_X10_56 dX10_drop_29 ?_
      refine z_iast G (k) dX10_drop_31 (by assumption) (hk) (by omega) ?_
      refine z_aload_n G dX10_drop_32 rfl ?_
      refine z_aload_n G dX10_drop_33 rfl ?_
      refine z_getR G fl_X10_13 rfl dX10_drop_34 (by assumption) (by assumption) ?_
      refine z_iload_n G dX10_drop_37 rfl ?_
      refine z_iald G (k) dX10_drop_38 (by assumption) (hk) (by omega) ?_
      rw [va_ne' (by omega)]
      refine z_V G lk_X10_75 dX10_drop_39 [_] rfl rfl rfl (Nat.le_of_ble_eq_true rfl) ⟨Nat.le_refl _, Nat.le_refl _⟩ (by assumption) ?_
      refine k_X10_well hM ?_
      exact z_iret G hq dX10_drop_42 (by have := hok k hk hk8 hmi; rw [va_ne' (by omega)]; exact this)
  · intro hno
    refine z_if_ne G 10 dX10_drop_4 (by decide) (fun c => absurd c (by decide)) (fun _ => ?_)
    refine z_ldc G ct_X10_70 dX10_drop_7 ?_
    exact z_iret G hq dX10_drop_9 (hb hno)
set_option maxHeartbeats 1000000 in
set_option maxRecDepth 20000 in
theorem k_X10_feed {E : pmE} {d : Nat} {S : pmS} {I : pmI} {P : pmP} {R : Option Value → pmS → pmI → pmP → Prop} {m : Nat} (hM : MG S P m) {y : Nat} {letter : Int32} (hy : (I m 6).toInt = (y : Int)) (hy80 : y ≤ 80) (hb : ¬ (0 ≤ letter.toInt ∧ letter.toInt ≤ 255) → R (some (.int (-1000001))) S I P) (hf : (0 ≤ letter.toInt ∧ letter.toInt ≤ 255) → ¬ y < 80 → R (some (.int (-1000003))) S I P) (hok : (0 ≤ letter.toInt ∧ letter.toInt ≤ 255) → y < 80 → R (some (.int (iN (y + 1)))) S (va_up (va_up I (m + 5) (va_up (I (m + 5)) y letter)) m (va_up (I m) 6 (iN (y + 1)))) P) : pmX E (d + 1) 0 0 yX10_feed [rr E m, .int letter] S I P R := by
  refine pm_of (by decide) cd_X10_feed (by decide) (by decide) (Nat.le_of_ble_eq_true rfl) ?_
  intro C G hq
  obtain ⟨g0, ⟨r0, r1, r2, r3, r4, r5, r6, r7, r8, r9, r10, r11, r12, r13, r14⟩, ⟨s1, s2, s3, s4, s5, s6, s7, s8, s9, s10, s11, s12, s13, s14, s15⟩⟩ := id hM
  refine z_iload_n G dX10_feed_0 rfl ?_
  refine z_iconst G (v := 0) dX10_feed_1 (by decide) ?_
  refine z_sipush G (v := 255) dX10_feed_2 (by decide) ?_
  refine z_S G lk_X10_62 dX10_feed_5 [_, _, _] rfl rfl rfl (Nat.le_of_ble_eq_true rfl) ⟨Nat.le_refl _, Nat.le_refl _⟩ ?_
  refine k_X10_in ?_ ?_
  · intro hin
    refine z_if_ne G 14 dX10_feed_8 (by decide) (fun _ => ?_) (fun c => absurd c (by decide))
    have hin2 : 0 ≤ letter.toInt ∧ letter.toInt ≤ 255 := by simp only [ti_lt, ti_le, Int32.reduceToInt] at hin; omega
    refine z_aload_n G dX10_feed_14 rfl ?_
    refine z_getI G fl_X10_88 rfl dX10_feed_15 (by assumption) ?_
    refine z_bipush G (v := 80) dX10_feed_18 (by decide) ?_
    refine z_icmp_ne G 26 dX10_feed_20 (by decide) (fun b20 => ?_) (fun b20 => ?_)
    · have hlt : y < 80 := by have : ¬ y = 80 := fun z => b20 (by rw [iN_of hy, z]; rfl); omega
      refine z_aload_n G dX10_feed_26 rfl ?_
      refine z_getR G fl_X10_22 rfl dX10_feed_27 (by assumption) (by assumption) ?_
      refine z_aload_n G dX10_feed_30 rfl ?_
      refine z_getI G fl_X10_88 rfl dX10_feed_31 (by assumption) ?_
      refine z_iload_n G dX10_feed_34 rfl ?_
      refine z_iast G (y) dX10_feed_35 (by assumption) (hy) (by omega) ?_
      refine z_aload_n G dX10_feed_36 rfl ?_
      refine z_dup G dX10_feed_37 rfl ?_
      refine z_getI G fl_X10_88 rfl dX10_feed_38 (by assumption) ?_
      try simp (disch := omega) only [va_at', va_ne', va_up_up]
      refine z_iconst G (v := 1) dX10_feed_41 (by decide) ?_
      refine z_iadd G dX10_feed_42 ?_
      refine z_top (y := iN (y + 1)) (by simp (disch := omega) only [iN_lit, iN_add, iN_sub, iN_mul, iN_an, iN_of hy] <;> exact congrArg iN (by omega)) ?_
      refine z_putI G fl_X10_88 ft_10_6 rfl rfl rfl dX10_feed_43 (by assumption) ?_
      try simp (disch := omega) only [va_at', va_ne', va_up_up]
      refine z_aload_n G dX10_feed_46 rfl ?_
      refine z_getI G fl_X10_88 rfl dX10_feed_47 (by assumption) ?_
      try simp (disch := omega) only [va_at', va_ne', va_up_up]
      exact z_iret G hq dX10_feed_50 (hok hin2 hlt)
    · refine z_ldc G ct_X10_91 dX10_feed_23 ?_
      exact z_iret G hq dX10_feed_25 (hf hin2 (by have := congrArg Int32.toInt b20; rw [hy] at this; simp only [Int32.reduceToInt] at this; omega))
  · intro hin
    refine z_if_ne G 14 dX10_feed_8 (by decide) (fun c => absurd c (by decide)) (fun _ => ?_)
    refine z_ldc G ct_X10_70 dX10_feed_11 ?_
    exact z_iret G hq dX10_feed_13 (hb (fun q => hin (by simp only [ti_lt, ti_le, Int32.reduceToInt]; omega)))
