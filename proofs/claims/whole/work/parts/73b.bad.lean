set_option maxHeartbeats 1000000 in
set_option maxRecDepth 20000 in
theorem k_X9_chanceB {E : pmE} {d : Nat} {S : pmS} {I : pmI} {P : pmP} {R : Option Value → pmS → pmI → pmP → Prop} (hX : XG S P) {n : Nat} {w : Nat → Int32} (hW : WR I 27 w n) (hn : (w 0).toInt = (n : Int)) (hn8 : n ≤ 8) {page x what : Int32} (hbad : (¬ ∃ q k e : Nat, page.toInt = (q : Int) ∧ q < n ∧ x.toInt = (k : Int) ∧ k ≤ 8 ∧ what.toInt = (e : Int) ∧ e ≤ 1)) (h : R (some (.int (-1000001))) S I P) : pmX E (d + 5) 0 0 yX9_chance [rr E 0, .int page, .int x, .int what] S I P R := by
  refine pm_of (by decide) cd_X9_chance (by decide) (by decide) (Nat.le_of_ble_eq_true rfl) ?_
  intro C G hq
  obtain ⟨⟨a0, a1, a2, a3, a4, a5, a6, a7, a8⟩, hRG, hRdG, hWG, hDG, ⟨z1, z2, z3, z4⟩, hIG, hFG, hAG⟩ := id hX
  refine z_aload_n G dX9_chance_0 rfl ?_
  refine z_getR G fl_X9_25 rfl dX9_chance_1 (by assumption) (by assumption) ?_
  refine z_iload_n G dX9_chance_4 rfl ?_
  refine z_V G lk_X9_179 dX9_chance_5 [_] rfl rfl rfl (Nat.le_of_ble_eq_true rfl) ⟨Nat.le_refl _, Nat.le_refl _⟩ hWG.1 ?_
  refine k_X8_hasPage hWG.1 (by rw [hW.1]; exact hn) ?_ ?_
  · intro q hq1 hq2
    refine z_if_eq G 30 dX9_chance_8 (by decide) (fun c => absurd c (by decide)) (fun _ => ?_)
    refine z_iload_n G dX9_chance_11 rfl ?_
    refine z_if_lt G 30 dX9_chance_12 (by decide) (fun b12 => ?_) (fun b12 => ?_)
    · refine z_ldc G ct_X9_73 dX9_chance_30 ?_
      exact z_iret G hq dX9_chance_32 (h)
    · refine z_iload_n G dX9_chance_15 rfl ?_
      refine z_bipush G (v := 8) dX9_chance_16 (by decide) ?_
      refine z_icmp_gt G 30 dX9_chance_18 (by decide) (fun b18 => ?_) (fun b18 => ?_)
      · refine z_ldc G ct_X9_73 dX9_chance_30 ?_
        exact z_iret G hq dX9_chance_32 (h)
      · refine z_iload_n G dX9_chance_21 rfl ?_
        refine z_if_lt G 30 dX9_chance_22 (by decide) (fun b22 => ?_) (fun b22 => ?_)
        · refine z_ldc G ct_X9_73 dX9_chance_30 ?_
          exact z_iret G hq dX9_chance_32 (h)
        · refine z_iload_n G dX9_chance_25 rfl ?_
          refine z_iconst G (v := 1) dX9_chance_26 (by decide) ?_
          refine z_icmp_le G 33 dX9_chance_27 (by decide) (fun b27 => ?_) (fun b27 => ?_)
          · exact absurd ⟨q, x.toInt.toNat, what.toInt.toNat, hq1, hq2, by simp only [ti_lt, ti_le, Int32.reduceToInt] at *; omega, by simp only [ti_lt, ti_le, Int32.reduceToInt] at *; omega, by simp only [ti_lt, ti_le, Int32.reduceToInt] at *; omega, by simp only [ti_lt, ti_le, Int32.reduceToInt] at *; omega⟩ hbad
          · refine z_ldc G ct_X9_73 dX9_chance_30 ?_
            exact z_iret G hq dX9_chance_32 (h)
  · intro hno
    refine z_if_eq G 30 dX9_chance_8 (by decide) (fun _ => ?_) (fun c => absurd c (by decide))
    refine z_ldc G ct_X9_73 dX9_chance_30 ?_
    exact z_iret G hq dX9_chance_32 (h)
set_option maxHeartbeats 1000000 in
set_option maxRecDepth 20000 in
theorem k_X10_chanceB {E : pmE} {d : Nat} {S : pmS} {I : pmI} {P : pmP} {R : Option Value → pmS → pmI → pmP → Prop} {m : Nat} (hM : MG S P m) {n : Nat} (hn : (I (m + 6) 0).toInt = (n : Int)) (hn8 : n ≤ 8) {page x what : Int32} (hbad : (¬ ∃ q k e : Nat, page.toInt = (q : Int) ∧ q < n ∧ x.toInt = (k : Int) ∧ k ≤ 8 ∧ what.toInt = (e : Int) ∧ e ≤ 1)) (h : R (some (.int (-1000001))) S I P) : pmX E (d + 3) 0 0 yX10_chance [rr E m, .int page, .int x, .int what] S I P R := by
  refine pm_of (by decide) cd_X10_chance (by decide) (by decide) (Nat.le_of_ble_eq_true rfl) ?_
  intro C G hq
  obtain ⟨g0, ⟨r0, r1, r2, r3, r4, r5, r6, r7, r8, r9, r10, r11, r12, r13, r14⟩, ⟨s1, s2, s3, s4, s5, s6, s7, s8, s9, s10, s11, s12, s13, s14, s15⟩⟩ := id hM
  refine z_aload_n G dX10_chance_0 rfl ?_
  refine z_iload_n G dX10_chance_1 rfl ?_
  refine z_V G lk_X10_205 dX10_chance_2 [_] rfl rfl rfl (Nat.le_of_ble_eq_true rfl) ⟨Nat.le_refl _, Nat.le_refl _⟩ (by assumption) ?_
  refine k_X10_isPage hM hn hn8 ?_ ?_
  · intro q hq1 hq2
    refine z_if_eq G 27 dX10_chance_5 (by decide) (fun c => absurd c (by decide)) (fun _ => ?_)
    refine z_iload_n G dX10_chance_8 rfl ?_
    refine z_iconst G (v := 0) dX10_chance_9 (by decide) ?_
    refine z_bipush G (v := 8) dX10_chance_10 (by decide) ?_
    refine z_S G lk_X10_62 dX10_chance_12 [_, _, _] rfl rfl rfl (Nat.le_of_ble_eq_true rfl) ⟨Nat.le_refl _, Nat.le_refl _⟩ ?_
    refine k_X10_in ?_ ?_
    · intro hin
      refine z_if_eq G 27 dX10_chance_15 (by decide) (fun c => absurd c (by decide)) (fun _ => ?_)
      refine z_iload_n G dX10_chance_18 rfl ?_
      refine z_iconst G (v := 0) dX10_chance_19 (by decide) ?_
      refine z_iconst G (v := 1) dX10_chance_20 (by decide) ?_
      refine z_S G lk_X10_62 dX10_chance_21 [_, _, _] rfl rfl rfl (Nat.le_of_ble_eq_true rfl) ⟨Nat.le_refl _, Nat.le_refl _⟩ ?_
      refine k_X10_in ?_ ?_
      · intro hin2
        refine z_if_ne G 30 dX10_chance_24 (by decide) (fun _ => ?_) (fun c => absurd c (by decide))
        exact absurd ⟨q, x.toInt.toNat, what.toInt.toNat, hq1, hq2, by simp only [ti_lt, ti_le, Int32.reduceToInt] at *; omega, by simp only [ti_lt, ti_le, Int32.reduceToInt] at *; omega, by simp only [ti_lt, ti_le, Int32.reduceToInt] at *; omega, by simp only [ti_lt, ti_le, Int32.reduceToInt] at *; omega⟩ hbad
      · intro hin2
        refine z_if_ne G 30 dX10_chance_24 (by decide) (fun c => absurd c (by decide)) (fun _ => ?_)
        refine z_ldc G ct_X10_70 dX10_chance_27 ?_
        exact z_iret G hq dX10_chance_29 (h)
    · intro hin
      refine z_if_eq G 27 dX10_chance_15 (by decide) (fun _ => ?_) (fun c => absurd c (by decide))
      refine z_ldc G ct_X10_70 dX10_chance_27 ?_
      exact z_iret G hq dX10_chance_29 (h)
  · intro hno
    refine z_if_eq G 27 dX10_chance_5 (by decide) (fun _ => ?_) (fun c => absurd c (by decide))
    refine z_ldc G ct_X10_70 dX10_chance_27 ?_
    exact z_iret G hq dX10_chance_29 (h)
set_option maxHeartbeats 1000000 in
set_option maxRecDepth 20000 in
theorem k_X9_toB {E : pmE} {d : Nat} {S : pmS} {I : pmI} {P : pmP} {R : Option Value → pmS → pmI → pmP → Prop} (hX : XG S P) {n : Nat} {w : Nat → Int32} (hW : WR I 27 w n) (hn : (w 0).toInt = (n : Int)) (hn8 : n ≤ 8) {page k : Int32} (hbad : (¬ ∃ q : Nat, page.toInt = (q : Int) ∧ q < n ∧ -1 ≤ k.toInt)) (h : R (some (.int (-1000001))) S I P) : pmX E (d + 10) 0 0 yX9_to [rr E 0, .int page, .int k] S I P R := by
  refine pm_of (by decide) cd_X9_to (by decide) (by decide) (Nat.le_of_ble_eq_true rfl) ?_
  intro C G hq
  obtain ⟨⟨a0, a1, a2, a3, a4, a5, a6, a7, a8⟩, hRG, hRdG, hWG, hDG, ⟨z1, z2, z3, z4⟩, hIG, hFG, hAG⟩ := id hX
  refine z_aload_n G dX9_to_0 rfl ?_
  refine z_getR G fl_X9_25 rfl dX9_to_1 (by assumption) (by assumption) ?_
  refine z_iload_n G dX9_to_4 rfl ?_
  refine z_V G lk_X9_179 dX9_to_5 [_] rfl rfl rfl (Nat.le_of_ble_eq_true rfl) ⟨Nat.le_refl _, Nat.le_refl _⟩ hWG.1 ?_
  refine k_X8_hasPage hWG.1 (by rw [hW.1]; exact hn) ?_ ?_
  · intro q hq1 hq2
    refine z_if_eq G 16 dX9_to_8 (by decide) (fun c => absurd c (by decide)) (fun _ => ?_)
    refine z_iload_n G dX9_to_11 rfl ?_
    refine z_iconst G (v := -1) dX9_to_12 (by decide) ?_
    refine z_icmp_ge G 19 dX9_to_13 (by decide) (fun b13 => ?_) (fun b13 => ?_)
    · exact absurd ⟨q, hq1, hq2, by rw [ti_le, show (-1 : Int32).toInt = -1 from rfl] at b13; exact b13⟩ hbad
    · refine z_ldc G ct_X9_73 dX9_to_16 ?_
      exact z_iret G hq dX9_to_18 (h)
  · intro hno
    refine z_if_eq G 16 dX9_to_8 (by decide) (fun _ => ?_) (fun c => absurd c (by decide))
    refine z_ldc G ct_X9_73 dX9_to_16 ?_
    exact z_iret G hq dX9_to_18 (h)
set_option maxHeartbeats 1000000 in
set_option maxRecDepth 20000 in
theorem k_X10_toB {E : pmE} {d : Nat} {S : pmS} {I : pmI} {P : pmP} {R : Option Value → pmS → pmI → pmP → Prop} {m : Nat} (hM : MG S P m) {n : Nat} (hn : (I (m + 6) 0).toInt = (n : Int)) (hn8 : n ≤ 8) {page k : Int32} (hbad : (¬ ∃ q : Nat, page.toInt = (q : Int) ∧ q < n ∧ -1 ≤ k.toInt)) (h : R (some (.int (-1000001))) S I P) : pmX E (d + 5) 0 0 yX10_to [rr E m, .int page, .int k] S I P R := by
  refine pm_of (by decide) cd_X10_to (by decide) (by decide) (Nat.le_of_ble_eq_true rfl) ?_
  intro C G hq
  obtain ⟨g0, ⟨r0, r1, r2, r3, r4, r5, r6, r7, r8, r9, r10, r11, r12, r13, r14⟩, ⟨s1, s2, s3, s4, s5, s6, s7, s8, s9, s10, s11, s12, s13, s14, s15⟩⟩ := id hM
  refine z_aload_n G dX10_to_0 rfl ?_
  refine z_iload_n G dX10_to_1 rfl ?_
  refine z_V G lk_X10_205 dX10_to_2 [_] rfl rfl rfl (Nat.le_of_ble_eq_true rfl) ⟨Nat.le_refl _, Nat.le_refl _⟩ (by assumption) ?_
  refine k_X10_isPage hM hn hn8 ?_ ?_
  · intro q hq1 hq2
    refine z_if_eq G 13 dX10_to_5 (by decide) (fun c => absurd c (by decide)) (fun _ => ?_)
    refine z_iload_n G dX10_to_8 rfl ?_
    refine z_iconst G (v := -1) dX10_to_9 (by decide) ?_
    refine z_icmp_ge G 16 dX10_to_10 (by decide) (fun b10 => ?_) (fun b10 => ?_)
    · exact absurd ⟨q, hq1, hq2, by rw [ti_le, show (-1 : Int32).toInt = -1 from rfl] at b10; exact b10⟩ hbad
    · refine z_ldc G ct_X10_70 dX10_to_13 ?_
      exact z_iret G hq dX10_to_15 (h)
  · intro hno
    refine z_if_eq G 13 dX10_to_5 (by decide) (fun _ => ?_) (fun c => absurd c (by decide))
    refine z_ldc G ct_X10_70 dX10_to_13 ?_
    exact z_iret G hq dX10_to_15 (h)
set_option maxHeartbeats 1000000 in
set_option maxRecDepth 20000 in
theorem k_X9_drawnB {E : pmE} {d : Nat} {S : pmS} {I : pmI} {P : pmP} {R : Option Value → pmS → pmI → pmP → Prop} (hX : XG S P) {n : Nat} {w : Nat → Int32} (hW : WR I 27 w n) (hn : (w 0).toInt = (n : Int)) (hn8 : n ≤ 8) (hn0 : 0 < n) {nn seed what : Int32} (hbad : (¬ ∃ k x e : Nat, nn.toInt = (k : Int) ∧ k ≤ 60 ∧ seed.toInt = (x : Int) ∧ 1 ≤ x ∧ x ≤ 999999 ∧ what.toInt = (e : Int) ∧ e ≤ 1)) (h : R (some (.int (-1000001))) S I P) : pmX E (d + 6) 0 0 yX9_drawn [rr E 0, .int nn, .int seed, .int what] S I P R := by
  refine pm_of (by decide) cd_X9_drawn (by decide) (by decide) (Nat.le_of_ble_eq_true rfl) ?_
  intro C G hq
  obtain ⟨⟨a0, a1, a2, a3, a4, a5, a6, a7, a8⟩, hRG, hRdG, hWG, hDG, ⟨z1, z2, z3, z4⟩, hIG, hFG, hAG⟩ := id hX
  refine z_aload_n G dX9_drawn_0 rfl ?_
  refine z_V G lk_X9_142 dX9_drawn_1 [] rfl rfl rfl (Nat.le_of_ble_eq_true rfl) ⟨Nat.le_refl _, Nat.le_refl _⟩ (by assumption) ?_
  refine k_X9_stands hX (by rw [hW.1]; exact hn) (fun _ => ?_) (fun q => absurd q (by omega))
  refine z_if_ne G 10 dX9_drawn_4 (by decide) (fun _ => ?_) (fun c => absurd c (by decide))
  refine z_iload_n G dX9_drawn_10 rfl ?_
  refine z_if_lt G 41 dX9_drawn_11 (by decide) (fun b11 => ?_) (fun b11 => ?_)
  · refine z_ldc G ct_X9_73 dX9_drawn_41 ?_
    exact z_iret G hq dX9_drawn_43 (h)
  · refine z_iload_n G dX9_drawn_14 rfl ?_
    refine z_bipush G (v := 60) dX9_drawn_15 (by decide) ?_
    refine z_icmp_gt G 41 dX9_drawn_17 (by decide) (fun b17 => ?_) (fun b17 => ?_)
    · refine z_ldc G ct_X9_73 dX9_drawn_41 ?_
      exact z_iret G hq dX9_drawn_43 (h)
    · refine z_iload_n G dX9_drawn_20 rfl ?_
      refine z_iconst G (v := 1) dX9_drawn_21 (by decide) ?_
      refine z_icmp_lt G 41 dX9_drawn_22 (by decide) (fun b22 => ?_) (fun b22 => ?_)
      · refine z_ldc G ct_X9_73 dX9_drawn_41 ?_
        exact z_iret G hq dX9_drawn_43 (h)
      · refine z_iload_n G dX9_drawn_25 rfl ?_
        refine z_ldcw G ct_X9_276 dX9_drawn_26 ?_
        refine z_icmp_gt G 41 dX9_drawn_29 (by decide) (fun b29 => ?_) (fun b29 => ?_)
        · refine z_ldc G ct_X9_73 dX9_drawn_41 ?_
          exact z_iret G hq dX9_drawn_43 (h)
        · refine z_iload_n G dX9_drawn_32 rfl ?_
          refine z_if_lt G 41 dX9_drawn_33 (by decide) (fun b33 => ?_) (fun b33 => ?_)
          · refine z_ldc G ct_X9_73 dX9_drawn_41 ?_
            exact z_iret G hq dX9_drawn_43 (h)
          · refine z_iload_n G dX9_drawn_36 rfl ?_
            refine z_iconst G (v := 1) dX9_drawn_37 (by decide) ?_
            refine z_icmp_le G 44 dX9_drawn_38 (by decide) (fun b38 => ?_) (fun b38 => ?_)
            · exact absurd ⟨nn.toInt.toNat, seed.toInt.toNat, what.toInt.toNat, by simp only [ti_lt, ti_le, Int32.reduceToInt] at *; omega, by simp only [ti_lt, ti_le, Int32.reduceToInt] at *; omega, by simp only [ti_lt, ti_le, Int32.reduceToInt] at *; omega, by simp only [ti_lt, ti_le, Int32.reduceToInt] at *; omega, by simp only [ti_lt, ti_le, Int32.reduceToInt] at *; omega, by simp only [ti_lt, ti_le, Int32.reduceToInt] at *; omega, by simp only [ti_lt, ti_le, Int32.reduceToInt] at *; omega⟩ hbad
            · refine z_ldc G ct_X9_73 dX9_drawn_41 ?_
              exact z_iret G hq dX9_drawn_43 (h)
set_option maxHeartbeats 1000000 in
set_option maxRecDepth 20000 in
theorem k_X10_drawnB {E : pmE} {d : Nat} {S : pmS} {I : pmI} {P : pmP} {R : Option Value → pmS → pmI → pmP → Prop} {m : Nat} (hM : MG S P m) {n : Nat} (hn : (I (m + 6) 0).toInt = (n : Int)) (hn8 : n ≤ 8) (hn0 : 0 < n) {nn seed what : Int32} (hbad : (¬ ∃ k x e : Nat, nn.toInt = (k : Int) ∧ k ≤ 60 ∧ seed.toInt = (x : Int) ∧ 1 ≤ x ∧ x ≤ 999999 ∧ what.toInt = (e : Int) ∧ e ≤ 1)) (h : R (some (.int (-1000001))) S I P) : pmX E (d + 5) 0 0 yX10_drawn [rr E m, .int nn, .int seed, .int what] S I P R := by
  refine pm_of (by decide) cd_X10_drawn (by decide) (by decide) (Nat.le_of_ble_eq_true rfl) ?_
  intro C G hq
  obtain ⟨g0, ⟨r0, r1, r2, r3, r4, r5, r6, r7, r8, r9, r10, r11, r12, r13, r14⟩, ⟨s1, s2, s3, s4, s5, s6, s7, s8, s9, s10, s11, s12, s13, s14, s15⟩⟩ := id hM
  refine z_aload_n G dX10_drawn_0 rfl ?_
  refine z_V G lk_X10_179 dX10_drawn_1 [] rfl rfl rfl (Nat.le_of_ble_eq_true rfl) ⟨Nat.le_refl _, Nat.le_refl _⟩ (by assumption) ?_
  refine k_X10_isWeb hM hn (fun _ => ?_) (fun q => absurd q (by omega))
  refine z_if_ne G 10 dX10_drawn_4 (by decide) (fun _ => ?_) (fun c => absurd c (by decide))
  refine z_iload_n G dX10_drawn_10 rfl ?_
  refine z_iconst G (v := 0) dX10_drawn_11 (by decide) ?_
  refine z_bipush G (v := 60) dX10_drawn_12 (by decide) ?_
  refine z_S G lk_X10_62 dX10_drawn_14 [_, _, _] rfl rfl rfl (Nat.le_of_ble_eq_true rfl) ⟨Nat.le_refl _, Nat.le_refl _⟩ ?_
  refine k_X10_in ?_ ?_
  · intro hin
    refine z_if_eq G 39 dX10_drawn_17 (by decide) (fun c => absurd c (by decide)) (fun _ => ?_)
    refine z_iload_n G dX10_drawn_20 rfl ?_
    refine z_iconst G (v := 1) dX10_drawn_21 (by decide) ?_
    refine z_ldc G ct_X10_233 dX10_drawn_22 ?_
    refine z_S G lk_X10_62 dX10_drawn_24 [_, _, _] rfl rfl rfl (Nat.le_of_ble_eq_true rfl) ⟨Nat.le_refl _, Nat.le_refl _⟩ ?_
    refine k_X10_in ?_ ?_
    · intro hin2
      refine z_if_eq G 39 dX10_drawn_27 (by decide) (fun c => absurd c (by decide)) (fun _ => ?_)
      refine z_iload_n G dX10_drawn_30 rfl ?_
      refine z_iconst G (v := 0) dX10_drawn_31 (by decide) ?_
      refine z_iconst G (v := 1) dX10_drawn_32 (by decide) ?_
      refine z_S G lk_X10_62 dX10_drawn_33 [_, _, _] rfl rfl rfl (Nat.le_of_ble_eq_true rfl) ⟨Nat.le_refl _, Nat.le_refl _⟩ ?_
      refine k_X10_in ?_ ?_
      · intro hin3
        refine z_if_ne G 42 dX10_drawn_36 (by decide) (fun _ => ?_) (fun c => absurd c (by decide))
        exact absurd ⟨nn.toInt.toNat, seed.toInt.toNat, what.toInt.toNat, by simp only [ti_lt, ti_le, Int32.reduceToInt] at *; omega, by simp only [ti_lt, ti_le, Int32.reduceToInt] at *; omega, by simp only [ti_lt, ti_le, Int32.reduceToInt] at *; omega, by simp only [ti_lt, ti_le, Int32.reduceToInt] at *; omega, by simp only [ti_lt, ti_le, Int32.reduceToInt] at *; omega, by simp only [ti_lt, ti_le, Int32.reduceToInt] at *; omega, by simp only [ti_lt, ti_le, Int32.reduceToInt] at *; omega⟩ hbad
      · intro hin3
        refine z_if_ne G 42 dX10_drawn_36 (by decide) (fun c => absurd c (by decide)) (fun _ => ?_)
        refine z_ldc G ct_X10_70 dX10_drawn_39 ?_
        exact z_iret G hq dX10_drawn_41 (h)
    · intro hin2
      refine z_if_eq G 39 dX10_drawn_27 (by decide) (fun _ => ?_) (fun c => absurd c (by decide))
      refine z_ldc G ct_X10_70 dX10_drawn_39 ?_
      exact z_iret G hq dX10_drawn_41 (h)
  · intro hin
    refine z_if_eq G 39 dX10_drawn_17 (by decide) (fun _ => ?_) (fun c => absurd c (by decide))
    refine z_ldc G ct_X10_70 dX10_drawn_39 ?_
    exact z_iret G hq dX10_drawn_41 (h)
