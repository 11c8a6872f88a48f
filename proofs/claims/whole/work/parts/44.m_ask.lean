set_option maxHeartbeats 1000000 in
set_option maxRecDepth 20000 in
theorem k_X9_ask {E : pmE} {d : Nat} {S : pmS} {I : pmI} {P : pmP} {R : Option Value → pmS → pmI → pmP → Prop} (hX : XG S P) {T c : Nat} {w : Nat → Int32} (hD : DR I P 30 w T c) (hT : (w 1).toInt = (T : Int)) (hT5 : T ≤ 5) (hsn : ∀ i, i < T → ∃ kd s : Nat, (w (44 + 10 * i)).toInt = (kd : Int) ∧ 1 ≤ kd ∧ kd ≤ 5 ∧ (w (47 + 10 * i)).toInt = (s : Int) ∧ s < 6 ∧ (s : Int) < (w (46 + 10 * i)).toInt) {tab what : Int32} (hb : (¬ ∃ i k : Nat, tab.toInt = (i : Int) ∧ i < T ∧ what.toInt = (k : Int) ∧ k ≤ 1) → R (some (.int (-1000001))) S I P) (h0 : ∀ i kd s : Nat, tab.toInt = (i : Int) → i < T → what = 0 → (w (44 + 10 * i)).toInt = (kd : Int) → (w (47 + 10 * i)).toInt = (s : Int) → ∀ I', (∀ k, k ≠ 594 → k ≠ 595 → I' k = I k) → Tr (I' 594 1) (I' 595) (askS kd (w (46 + 10 * i)) tab (w (48 + 10 * i + s))).1 → R (some (.int (askS kd (w (46 + 10 * i)) tab (w (48 + 10 * i + s))).2)) S I' P) (h1 : ∀ i kd s : Nat, tab.toInt = (i : Int) → i < T → what = 1 → (w (44 + 10 * i)).toInt = (kd : Int) → (w (47 + 10 * i)).toInt = (s : Int) → ∀ I', (∀ k, k ≠ 594 → k ≠ 595 → I' k = I k) → Tr (I' 594 1) (I' 595) (askM kd (w (46 + 10 * i)) tab (w (48 + 10 * i + s))).1 → R (some (.int (askM kd (w (46 + 10 * i)) tab (w (48 + 10 * i + s))).2)) S I' P) : pmX E (d + 7) 0 0 yX9_ask [rr E 0, .int tab, .int what] S I P R := by
  refine pm_of (by decide) cd_X9_ask (by decide) (by decide) (Nat.le_of_ble_eq_true rfl) ?_
  intro C G hq
  obtain ⟨⟨a0, a1, a2, a3, a4, a5, a6, a7, a8⟩, hRG, hRdG, hWG, hDG, ⟨z1, z2, z3, z4⟩, hIG, hFG, hAG⟩ := id hX
  refine z_aload_n G dX9_ask_0 rfl ?_
  refine z_getR G fl_X9_32 rfl dX9_ask_1 (by assumption) (by assumption) ?_
  refine z_iload_n G dX9_ask_4 rfl ?_
  refine z_V G lk_X9_170 dX9_ask_5 [_] rfl rfl rfl (Nat.le_of_ble_eq_true rfl) ⟨Nat.le_refl _, Nat.le_refl _⟩ hDG.1.1 ?_
  refine k_X1_hasTab hDG.1.1 (by rw [hD.1]; exact hT) hT5 ?_ ?_
  · intro i hi hiT
    refine z_if_eq G 20 dX9_ask_8 (by decide) (fun c => absurd c (by decide)) (fun _ => ?_)
    refine z_iload_n G dX9_ask_11 rfl ?_
    refine z_if_lt G 20 dX9_ask_12 (by decide) (fun b12 => ?_) (fun b12 => ?_)
    · refine z_ldc G ct_X9_73 dX9_ask_20 ?_
      exact z_iret G hq dX9_ask_22 (hb (fun ⟨i, k, _, _, q1, q2⟩ => by simp only [ti_lt, ti_le, Int32.reduceToInt] at *; omega))
    · refine z_iload_n G dX9_ask_15 rfl ?_
      refine z_iconst G (v := 1) dX9_ask_16 (by decide) ?_
      refine z_icmp_le G 23 dX9_ask_17 (by decide) (fun b17 => ?_) (fun b17 => ?_)
      · obtain ⟨tt, ht1, ht2, ht3, ht4⟩ := hDG.row (show i < 5 by omega)
        have hTR := hD.2.2.2.1 i hiT tt ht1
        obtain ⟨kd, s, k1, k2, k3, s1, s2, s3⟩ := hsn i hiT
        obtain ⟨q1, q2, q3, q4, q5⟩ := hTR
        rw [show 44 + 10 * i + 2 = 46 + 10 * i by omega] at q3 q5
        rw [show 44 + 10 * i + 3 = 47 + 10 * i by omega] at q4
        have q6 := q5 s s3
        rw [show 44 + 10 * i + 4 + s = 48 + 10 * i + s by omega] at q6
        have hw01 : what = 0 ∨ what = 1 := by simp only [ti_eq, ti_lt, ti_le, Int32.reduceToInt] at *; omega
        refine z_aload_n G dX9_ask_23 rfl ?_
        refine z_getR G fl_X9_59 rfl dX9_ask_24 (by assumption) (by assumption) ?_
        refine z_aload_n G dX9_ask_27 rfl ?_
        refine z_getR G fl_X9_32 rfl dX9_ask_28 (by assumption) (by assumption) ?_
        refine z_getR G fl_X9_198 rfl dX9_ask_31 hDG.1.1 hDG.1.2.1 ?_
        refine z_iload_n G dX9_ask_34 rfl ?_
        refine z_aald G 5 (i) rfl (by decide) dX9_ask_35 hDG.1.2.2.2.2.1 (hi) (by omega) ht1 ?_
        refine z_iload_n G dX9_ask_36 rfl ?_
        refine z_iload_n G dX9_ask_37 rfl ?_
        by_cases hw0 : what = 0
        · refine z_V G lk_X9_299 dX9_ask_38 [_, _, _] rfl rfl rfl (Nat.le_of_ble_eq_true rfl) ⟨Nat.le_refl _, Nat.le_refl _⟩ hAG.1 ?_
          refine k_X0_answerS hAG ht2 (by omega) (by rw [q4]; exact s1) s2 (by rw [q1]; exact k1) k2 k3 hw0 (fun I' f1 t1 => ?_)
          rw [q3, q6] at *
          exact z_iret G hq dX9_ask_41 (h0 i kd s hi hiT hw0 k1 s1 I' f1 t1)
        have hw1 : what = 1 := hw01.resolve_left hw0
        refine z_V G lk_X9_299 dX9_ask_38 [_, _, _] rfl rfl rfl (Nat.le_of_ble_eq_true rfl) ⟨Nat.le_refl _, Nat.le_refl _⟩ hAG.1 ?_
        refine k_X0_answerM hAG ht2 (by omega) (by rw [q4]; exact s1) s2 (by rw [q1]; exact k1) k2 k3 hw0 (fun I' f1 t1 => ?_)
        rw [q3, q6] at *
        exact z_iret G hq dX9_ask_41 (h1 i kd s hi hiT hw1 k1 s1 I' f1 t1)
      · refine z_ldc G ct_X9_73 dX9_ask_20 ?_
        exact z_iret G hq dX9_ask_22 (hb (fun ⟨i, k, _, _, q1, q2⟩ => by simp only [ti_lt, ti_le, Int32.reduceToInt] at *; omega))
  · intro hnt
    refine z_if_eq G 20 dX9_ask_8 (by decide) (fun _ => ?_) (fun c => absurd c (by decide))
    refine z_ldc G ct_X9_73 dX9_ask_20 ?_
    exact z_iret G hq dX9_ask_22 (hb (fun ⟨i, k, q1, q2, _⟩ => hnt ⟨i, q1, q2⟩))
set_option maxHeartbeats 1000000 in
set_option maxRecDepth 20000 in
theorem k_X9_trace {E : pmE} {d : Nat} {S : pmS} {I : pmI} {P : pmP} {R : Option Value → pmS → pmI → pmP → Prop} (hX : XG S P) {l : List Int32} (hT : Tr (I 594 1) (I 595) l) (hl : l.length ≤ 16) {i : Int32} (h1 : ∀ (j : Nat) (v : Int32), i.toInt = (j : Int) → l[j]? = some v → R (some (.int v)) S I P) (h0 : (¬ ∃ j : Nat, i.toInt = (j : Int) ∧ j < l.length) → R (some (.int (-1000000))) S I P) : pmX E d 0 0 yX9_trace [rr E 0, .int i] S I P R := by
  refine pm_of (by decide) cd_X9_trace (by decide) (by decide) (Nat.le_of_ble_eq_true rfl) ?_
  intro C G hq
  obtain ⟨⟨a0, a1, a2, a3, a4, a5, a6, a7, a8⟩, hRG, hRdG, hWG, hDG, ⟨z1, z2, z3, z4⟩, hIG, hFG, hAG⟩ := id hX
  refine z_iload_n G dX9_trace_0 rfl ?_
  refine z_if_lt G 27 dX9_trace_1 (by decide) (fun b1 => ?_) (fun b1 => ?_)
  · refine z_ldc G ct_X9_215 dX9_trace_27 ?_
    exact z_iret G hq dX9_trace_29 (h0 (fun ⟨j, q1, q2⟩ => by simp only [ti_lt, ti_le, Int32.reduceToInt] at *; omega))
  · refine z_iload_n G dX9_trace_4 rfl ?_
    refine z_aload_n G dX9_trace_5 rfl ?_
    refine z_getR G fl_X9_59 rfl dX9_trace_6 (by assumption) (by assumption) ?_
    refine z_getI G fl_X9_303 rfl dX9_trace_9 hAG.1 ?_
    refine z_icmp_ge G 27 dX9_trace_12 (by decide) (fun b12 => ?_) (fun b12 => ?_)
    · refine z_ldc G ct_X9_215 dX9_trace_27 ?_
      exact z_iret G hq dX9_trace_29 (h0 (fun ⟨j, q1, q2⟩ => by have := hT.1; simp only [ti_lt, ti_le, Int32.reduceToInt] at *; omega))
    · obtain ⟨j, hj, hjl⟩ : ∃ j : Nat, i.toInt = (j : Int) ∧ j < l.length := ⟨i.toInt.toNat, by simp only [ti_lt, ti_le, Int32.reduceToInt] at *; omega, by have := hT.1; simp only [ti_lt, ti_le, Int32.reduceToInt] at *; omega⟩
      have hv : l[j]? = some l[j] := List.getElem?_eq_getElem hjl
      refine z_aload_n G dX9_trace_15 rfl ?_
      refine z_getR G fl_X9_59 rfl dX9_trace_16 (by assumption) (by assumption) ?_
      refine z_getR G fl_X9_306 rfl dX9_trace_19 hAG.1 hAG.2.1 ?_
      refine z_iload_n G dX9_trace_22 rfl ?_
      refine z_iald G (j) dX9_trace_23 hAG.2.2 (hj) (by omega) ?_
      refine z_goto G 29 dX9_trace_24 (by decide) ?_
      exact z_iret G hq dX9_trace_29 (by rw [hT.2 j _ hv]; exact h1 j _ hj hv)
set_option maxHeartbeats 1000000 in
set_option maxRecDepth 20000 in
theorem k_X10_begins {E : pmE} {d : Nat} {S : pmS} {I : pmI} {P : pmP} {R : Option Value → pmS → pmI → pmP → Prop} {m : Nat} (hM : MG S P m) {l : List Int32} {v : Int32} (hT : Tr (I m 24) (I (m + 15)) l) (hl : l.length < 16) (h : ∀ I', FrB I I' m → Tr (I' m 24) (I' (m + 15)) (l ++ [v]) → R none S I' P) : pmX E d 0 0 yX10_begins [rr E m, .int v] S I P R := by
  refine pm_of (by decide) cd_X10_begins (by decide) (by decide) (Nat.le_of_ble_eq_true rfl) ?_
  intro C G hq
  obtain ⟨g0, ⟨r0, r1, r2, r3, r4, r5, r6, r7, r8, r9, r10, r11, r12, r13, r14⟩, ⟨s1, s2, s3, s4, s5, s6, s7, s8, s9, s10, s11, s12, s13, s14, s15⟩⟩ := id hM
  refine z_aload_n G dX10_begins_0 rfl ?_
  refine z_getI G fl_X10_245 rfl dX10_begins_1 (by assumption) ?_
  refine z_bipush G (v := 16) dX10_begins_4 (by decide) ?_
  refine z_icmp_ge G 29 dX10_begins_6 (by decide) (fun c => absurd c (by simp only [ti_lt, ti_le, Int32.reduceToInt, hT.1]; omega)) (fun _ => ?_)
  refine z_aload_n G dX10_begins_9 rfl ?_
  refine z_getR G fl_X10_53 rfl dX10_begins_10 (by assumption) (by assumption) ?_
  refine z_aload_n G dX10_begins_13 rfl ?_
  refine z_getI G fl_X10_245 rfl dX10_begins_14 (by assumption) ?_
  refine z_iload_n G dX10_begins_17 rfl ?_
  refine z_iast G (l.length) dX10_begins_18 (by assumption) (hT.1) (by omega) ?_
  refine z_aload_n G dX10_begins_19 rfl ?_
  refine z_dup G dX10_begins_20 rfl ?_
  refine z_getI G fl_X10_245 rfl dX10_begins_21 (by assumption) ?_
  try simp (disch := omega) only [va_at', va_ne', va_up_up]
  refine z_iconst G (v := 1) dX10_begins_24 (by decide) ?_
  refine z_iadd G dX10_begins_25 ?_
  refine z_top (y := iN (l.length + 1)) (by rw [iN_of hT.1, iN_lit, iN_add]) ?_
  refine z_putI G fl_X10_245 ft_10_24 rfl rfl rfl dX10_begins_26 (by assumption) ?_
  exact z_vret G hq dX10_begins_29 (h _ ⟨fun k a b => by rw [va_ne' a, va_ne' b], fun j hj => by simp (disch := omega) only [va_at', va_ne', va_up_up]⟩ (by simp (disch := omega) only [va_at', va_ne', va_up_up]; exact hT.snoc hl))
set_option maxHeartbeats 1000000 in
set_option maxRecDepth 20000 in
theorem k_X10_plainMark1 {E : pmE} {d : Nat} {S : pmS} {I : pmI} {P : pmP} {R : Option Value → pmS → pmI → pmP → Prop} {m : Nat} (hM : MG S P m) {i s kd : Nat} {tab : Int32} (hi : tab.toInt = (i : Int)) (hi5 : i < 5) (hk : (I (m + 6) (44 + 10 * i)).toInt = (kd : Int)) (hk1 : 1 ≤ kd) (hk5 : kd ≤ 5) (hsh : (I (m + 6) (47 + 10 * i)).toInt = (s : Int)) (hs6 : s < 6) {l : List Int32} (hT : Tr (I m 24) (I (m + 15)) l) (hkd : kd = 1) (hl : l.length + 2 ≤ 16) (h : ∀ I', FrB I I' m → Tr (I' m 24) (I' (m + 15)) (l ++ [21, 20]) → R (some (.int (tab + I (m + 6) (48 + 10 * i + s)))) S I' P) : pmX E (d + 1) 0 0 yX10_plainMark [rr E m, .int tab] S I P R := by
  refine pm_of (by decide) cd_X10_plainMark (by decide) (by decide) (Nat.le_of_ble_eq_true rfl) ?_
  intro C G hq
  obtain ⟨g0, ⟨r0, r1, r2, r3, r4, r5, r6, r7, r8, r9, r10, r11, r12, r13, r14⟩, ⟨s1, s2, s3, s4, s5, s6, s7, s8, s9, s10, s11, s12, s13, s14, s15⟩⟩ := id hM
  have hkv : I (m + 6) (44 + 10 * i) = 1 := by rw [iN_of hk, hkd]; rfl
  refine z_aload_n G dX10_plainMark_0 rfl ?_
  refine z_iload_n G dX10_plainMark_1 rfl ?_
  refine z_V G lk_X10_242 dX10_plainMark_2 [_] rfl rfl rfl (Nat.le_of_ble_eq_true rfl) ⟨Nat.le_refl _, Nat.le_refl _⟩ (by assumption) ?_
  refine k_X10_kindIn hM hi hi5 ?_
  rw [hkv]
  refine z_istore_n G dX10_plainMark_5 (Nat.le_of_ble_eq_true rfl) rfl ?_
  refine z_iload_n G dX10_plainMark_6 rfl ?_
  refine z_iconst G (v := 1) dX10_plainMark_7 (by decide) ?_
  refine z_icmp_eq G 27 dX10_plainMark_8 (by decide) (fun _ => ?_) (fun c => absurd c (by decide))
  refine z_aload_n G dX10_plainMark_27 rfl ?_
  refine z_bipush G (v := 21) dX10_plainMark_28 (by decide) ?_
  refine z_V G lk_X10_248 dX10_plainMark_30 [_] rfl rfl rfl (Nat.le_of_ble_eq_true rfl) ⟨Nat.le_refl _, Nat.le_refl _⟩ (by assumption) ?_
  refine k_X10_begins hM hT (by (try simp only [List.length_append, List.length_cons, List.length_nil]); omega) (fun I1 f1 t1 => ?_)
  refine z_aload_n G dX10_plainMark_33 rfl ?_
  refine z_bipush G (v := 20) dX10_plainMark_34 (by decide) ?_
  refine z_V G lk_X10_248 dX10_plainMark_36 [_] rfl rfl rfl (Nat.le_of_ble_eq_true rfl) ⟨Nat.le_refl _, Nat.le_refl _⟩ (by assumption) ?_
  refine k_X10_begins hM t1 (by (try simp only [List.length_append, List.length_cons, List.length_nil]); omega) (fun I2 f2 t2 => ?_)
  refine z_iload_n G dX10_plainMark_39 rfl ?_
  refine z_aload_n G dX10_plainMark_40 rfl ?_
  refine z_getR G fl_X10_25 rfl dX10_plainMark_41 (by assumption) (by assumption) ?_
  refine z_iload_n G dX10_plainMark_44 rfl ?_
  refine z_S G lk_X10_153 dX10_plainMark_45 [_, _] rfl rfl rfl (Nat.le_of_ble_eq_true rfl) ⟨Nat.le_refl _, Nat.le_refl _⟩ ?_
  refine k_X10_shows s6 hi hi5 (by rw [((f1.tr f2).1 (m + 6) (by omega) (by omega))]; exact hsh) hs6 ?_
  rw [((f1.tr f2).1 (m + 6) (by omega) (by omega))]
  refine z_iadd G dX10_plainMark_48 ?_
  refine z_istore_n G dX10_plainMark_49 (Nat.le_of_ble_eq_true rfl) rfl ?_
  refine z_iload_n G dX10_plainMark_50 rfl ?_
  refine z_iconst G (v := 2) dX10_plainMark_51 (by decide) ?_
  refine z_icmp_ne G 61 dX10_plainMark_52 (by decide) (fun _ => ?_) (fun c => absurd c (by decide))
  refine z_iload_n G dX10_plainMark_61 rfl ?_
  refine z_iconst G (v := 3) dX10_plainMark_62 (by decide) ?_
  refine z_icmp_ne G 74 dX10_plainMark_63 (by decide) (fun _ => ?_) (fun c => absurd c (by decide))
  refine z_iload_n G dX10_plainMark_74 rfl ?_
  exact z_iret G hq dX10_plainMark_75 (h I2 (f1.tr f2) (by simpa only [List.append_assoc, List.cons_append, List.nil_append] using t2))
set_option maxHeartbeats 1000000 in
set_option maxRecDepth 20000 in
theorem k_X10_plainMark2 {E : pmE} {d : Nat} {S : pmS} {I : pmI} {P : pmP} {R : Option Value → pmS → pmI → pmP → Prop} {m : Nat} (hM : MG S P m) {i s kd : Nat} {tab : Int32} (hi : tab.toInt = (i : Int)) (hi5 : i < 5) (hk : (I (m + 6) (44 + 10 * i)).toInt = (kd : Int)) (hk1 : 1 ≤ kd) (hk5 : kd ≤ 5) (hsh : (I (m + 6) (47 + 10 * i)).toInt = (s : Int)) (hs6 : s < 6) {l : List Int32} (hT : Tr (I m 24) (I (m + 15)) l) (hkd : kd = 2) (hl : l.length + 3 ≤ 16) (h : ∀ I', FrB I I' m → Tr (I' m 24) (I' (m + 15)) (l ++ [24, 21, 20]) → R (some (.int (2 * (tab + I (m + 6) (48 + 10 * i + s))))) S I' P) : pmX E (d + 1) 0 0 yX10_plainMark [rr E m, .int tab] S I P R := by
  refine pm_of (by decide) cd_X10_plainMark (by decide) (by decide) (Nat.le_of_ble_eq_true rfl) ?_
  intro C G hq
  obtain ⟨g0, ⟨r0, r1, r2, r3, r4, r5, r6, r7, r8, r9, r10, r11, r12, r13, r14⟩, ⟨s1, s2, s3, s4, s5, s6, s7, s8, s9, s10, s11, s12, s13, s14, s15⟩⟩ := id hM
  have hkv : I (m + 6) (44 + 10 * i) = 2 := by rw [iN_of hk, hkd]; rfl
  refine z_aload_n G dX10_plainMark_0 rfl ?_
  refine z_iload_n G dX10_plainMark_1 rfl ?_
  refine z_V G lk_X10_242 dX10_plainMark_2 [_] rfl rfl rfl (Nat.le_of_ble_eq_true rfl) ⟨Nat.le_refl _, Nat.le_refl _⟩ (by assumption) ?_
  refine k_X10_kindIn hM hi hi5 ?_
  rw [hkv]
  refine z_istore_n G dX10_plainMark_5 (Nat.le_of_ble_eq_true rfl) rfl ?_
  refine z_iload_n G dX10_plainMark_6 rfl ?_
  refine z_iconst G (v := 1) dX10_plainMark_7 (by decide) ?_
  refine z_icmp_eq G 27 dX10_plainMark_8 (by decide) (fun c => absurd c (by decide)) (fun _ => ?_)
  refine z_aload_n G dX10_plainMark_11 rfl ?_
  refine z_iload_n G dX10_plainMark_12 rfl ?_
  refine z_iconst G (v := 2) dX10_plainMark_13 (by decide) ?_
  refine z_icmp_ne G 22 dX10_plainMark_14 (by decide) (fun c => absurd c (by decide)) (fun _ => ?_)
  refine z_bipush G (v := 24) dX10_plainMark_17 (by decide) ?_
  refine z_goto G 24 dX10_plainMark_19 (by decide) ?_
  refine z_V G lk_X10_248 dX10_plainMark_24 [_] rfl rfl rfl (Nat.le_of_ble_eq_true rfl) ⟨Nat.le_refl _, Nat.le_refl _⟩ (by assumption) ?_
  refine k_X10_begins hM hT (by (try simp only [List.length_append, List.length_cons, List.length_nil]); omega) (fun I1 f1 t1 => ?_)
  refine z_aload_n G dX10_plainMark_27 rfl ?_
  refine z_bipush G (v := 21) dX10_plainMark_28 (by decide) ?_
  refine z_V G lk_X10_248 dX10_plainMark_30 [_] rfl rfl rfl (Nat.le_of_ble_eq_true rfl) ⟨Nat.le_refl _, Nat.le_refl _⟩ (by assumption) ?_
  refine k_X10_begins hM t1 (by (try simp only [List.length_append, List.length_cons, List.length_nil]); omega) (fun I2 f2 t2 => ?_)
  refine z_aload_n G dX10_plainMark_33 rfl ?_
  refine z_bipush G (v := 20) dX10_plainMark_34 (by decide) ?_
  refine z_V G lk_X10_248 dX10_plainMark_36 [_] rfl rfl rfl (Nat.le_of_ble_eq_true rfl) ⟨Nat.le_refl _, Nat.le_refl _⟩ (by assumption) ?_
  refine k_X10_begins hM t2 (by (try simp only [List.length_append, List.length_cons, List.length_nil]); omega) (fun I3 f3 t3 => ?_)
  refine z_iload_n G dX10_plainMark_39 rfl ?_
  refine z_aload_n G dX10_plainMark_40 rfl ?_
  refine z_getR G fl_X10_25 rfl dX10_plainMark_41 (by assumption) (by assumption) ?_
  refine z_iload_n G dX10_plainMark_44 rfl ?_
  refine z_S G lk_X10_153 dX10_plainMark_45 [_, _] rfl rfl rfl (Nat.le_of_ble_eq_true rfl) ⟨Nat.le_refl _, Nat.le_refl _⟩ ?_
  refine k_X10_shows s6 hi hi5 (by rw [(((f1.tr f2).tr f3).1 (m + 6) (by omega) (by omega))]; exact hsh) hs6 ?_
  rw [(((f1.tr f2).tr f3).1 (m + 6) (by omega) (by omega))]
  refine z_iadd G dX10_plainMark_48 ?_
  refine z_istore_n G dX10_plainMark_49 (Nat.le_of_ble_eq_true rfl) rfl ?_
  refine z_iload_n G dX10_plainMark_50 rfl ?_
  refine z_iconst G (v := 2) dX10_plainMark_51 (by decide) ?_
  refine z_icmp_ne G 61 dX10_plainMark_52 (by decide) (fun c => absurd c (by decide)) (fun _ => ?_)
  refine z_iconst G (v := 2) dX10_plainMark_55 (by decide) ?_
  refine z_iload_n G dX10_plainMark_56 rfl ?_
  refine z_imul G dX10_plainMark_57 ?_
  refine z_goto G 75 dX10_plainMark_58 (by decide) ?_
  exact z_iret G hq dX10_plainMark_75 (h I3 ((f1.tr f2).tr f3) (by simpa only [List.append_assoc, List.cons_append, List.nil_append] using t3))
set_option maxHeartbeats 1000000 in
set_option maxRecDepth 20000 in
theorem k_X10_plainMark3 {E : pmE} {d : Nat} {S : pmS} {I : pmI} {P : pmP} {R : Option Value → pmS → pmI → pmP → Prop} {m : Nat} (hM : MG S P m) {i s kd : Nat} {tab : Int32} (hi : tab.toInt = (i : Int)) (hi5 : i < 5) (hk : (I (m + 6) (44 + 10 * i)).toInt = (kd : Int)) (hk1 : 1 ≤ kd) (hk5 : kd ≤ 5) (hsh : (I (m + 6) (47 + 10 * i)).toInt = (s : Int)) (hs6 : s < 6) {l : List Int32} (hT : Tr (I m 24) (I (m + 15)) l) (hkd : kd = 3) (hl : l.length + 3 ≤ 16) (h : ∀ I', FrB I I' m → Tr (I' m 24) (I' (m + 15)) (l ++ [22, 21, 20]) → R (some (.int ((tab + I (m + 6) (48 + 10 * i + s)) - 1000))) S I' P) : pmX E (d + 1) 0 0 yX10_plainMark [rr E m, .int tab] S I P R := by
  refine pm_of (by decide) cd_X10_plainMark (by decide) (by decide) (Nat.le_of_ble_eq_true rfl) ?_
  intro C G hq
  obtain ⟨g0, ⟨r0, r1, r2, r3, r4, r5, r6, r7, r8, r9, r10, r11, r12, r13, r14⟩, ⟨s1, s2, s3, s4, s5, s6, s7, s8, s9, s10, s11, s12, s13, s14, s15⟩⟩ := id hM
  have hkv : I (m + 6) (44 + 10 * i) = 3 := by rw [iN_of hk, hkd]; rfl
  refine z_aload_n G dX10_plainMark_0 rfl ?_
  refine z_iload_n G dX10_plainMark_1 rfl ?_
  refine z_V G lk_X10_242 dX10_plainMark_2 [_] rfl rfl rfl (Nat.le_of_ble_eq_true rfl) ⟨Nat.le_refl _, Nat.le_refl _⟩ (by assumption) ?_
  refine k_X10_kindIn hM hi hi5 ?_
  rw [hkv]
  refine z_istore_n G dX10_plainMark_5 (Nat.le_of_ble_eq_true rfl) rfl ?_
  refine z_iload_n G dX10_plainMark_6 rfl ?_
  refine z_iconst G (v := 1) dX10_plainMark_7 (by decide) ?_
  refine z_icmp_eq G 27 dX10_plainMark_8 (by decide) (fun c => absurd c (by decide)) (fun _ => ?_)
  refine z_aload_n G dX10_plainMark_11 rfl ?_
  refine z_iload_n G dX10_plainMark_12 rfl ?_
  refine z_iconst G (v := 2) dX10_plainMark_13 (by decide) ?_
  refine z_icmp_ne G 22 dX10_plainMark_14 (by decide) (fun _ => ?_) (fun c => absurd c (by decide))
  refine z_bipush G (v := 22) dX10_plainMark_22 (by decide) ?_
  refine z_V G lk_X10_248 dX10_plainMark_24 [_] rfl rfl rfl (Nat.le_of_ble_eq_true rfl) ⟨Nat.le_refl _, Nat.le_refl _⟩ (by assumption) ?_
  refine k_X10_begins hM hT (by (try simp only [List.length_append, List.length_cons, List.length_nil]); omega) (fun I1 f1 t1 => ?_)
  refine z_aload_n G dX10_plainMark_27 rfl ?_
  refine z_bipush G (v := 21) dX10_plainMark_28 (by decide) ?_
  refine z_V G lk_X10_248 dX10_plainMark_30 [_] rfl rfl rfl (Nat.le_of_ble_eq_true rfl) ⟨Nat.le_refl _, Nat.le_refl _⟩ (by assumption) ?_
  refine k_X10_begins hM t1 (by (try simp only [List.length_append, List.length_cons, List.length_nil]); omega) (fun I2 f2 t2 => ?_)
  refine z_aload_n G dX10_plainMark_33 rfl ?_
  refine z_bipush G (v := 20) dX10_plainMark_34 (by decide) ?_
  refine z_V G lk_X10_248 dX10_plainMark_36 [_] rfl rfl rfl (Nat.le_of_ble_eq_true rfl) ⟨Nat.le_refl _, Nat.le_refl _⟩ (by assumption) ?_
  refine k_X10_begins hM t2 (by (try simp only [List.length_append, List.length_cons, List.length_nil]); omega) (fun I3 f3 t3 => ?_)
  refine z_iload_n G dX10_plainMark_39 rfl ?_
  refine z_aload_n G dX10_plainMark_40 rfl ?_
  refine z_getR G fl_X10_25 rfl dX10_plainMark_41 (by assumption) (by assumption) ?_
  refine z_iload_n G dX10_plainMark_44 rfl ?_
  refine z_S G lk_X10_153 dX10_plainMark_45 [_, _] rfl rfl rfl (Nat.le_of_ble_eq_true rfl) ⟨Nat.le_refl _, Nat.le_refl _⟩ ?_
  refine k_X10_shows s6 hi hi5 (by rw [(((f1.tr f2).tr f3).1 (m + 6) (by omega) (by omega))]; exact hsh) hs6 ?_
  rw [(((f1.tr f2).tr f3).1 (m + 6) (by omega) (by omega))]
  refine z_iadd G dX10_plainMark_48 ?_
  refine z_istore_n G dX10_plainMark_49 (Nat.le_of_ble_eq_true rfl) rfl ?_
  refine z_iload_n G dX10_plainMark_50 rfl ?_
  refine z_iconst G (v := 2) dX10_plainMark_51 (by decide) ?_
  refine z_icmp_ne G 61 dX10_plainMark_52 (by decide) (fun _ => ?_) (fun c => absurd c (by decide))
  refine z_iload_n G dX10_plainMark_61 rfl ?_
  refine z_iconst G (v := 3) dX10_plainMark_62 (by decide) ?_
  refine z_icmp_ne G 74 dX10_plainMark_63 (by decide) (fun c => absurd c (by decide)) (fun _ => ?_)
  refine z_iload_n G dX10_plainMark_66 rfl ?_
  refine z_sipush G (v := 1000) dX10_plainMark_67 (by decide) ?_
  refine z_isub G dX10_plainMark_70 ?_
  refine z_goto G 75 dX10_plainMark_71 (by decide) ?_
  exact z_iret G hq dX10_plainMark_75 (h I3 ((f1.tr f2).tr f3) (by simpa only [List.append_assoc, List.cons_append, List.nil_append] using t3))
set_option maxHeartbeats 1000000 in
set_option maxRecDepth 20000 in
theorem k_X10_guestSize4 {E : pmE} {d : Nat} {S : pmS} {I : pmI} {P : pmP} {R : Option Value → pmS → pmI → pmP → Prop} {m : Nat} (hM : MG S P m) {i s kd : Nat} {tab : Int32} (hi : tab.toInt = (i : Int)) (hi5 : i < 5) (hk : (I (m + 6) (44 + 10 * i)).toInt = (kd : Int)) (hk1 : 1 ≤ kd) (hk5 : kd ≤ 5) (hsh : (I (m + 6) (47 + 10 * i)).toInt = (s : Int)) (hs6 : s < 6) {l : List Int32} (hT : Tr (I m 24) (I (m + 15)) l) (hkd : kd = 4) (hl : l.length + 2 ≤ 16) (h : ∀ I', FrB I I' m → Tr (I' m 24) (I' (m + 15)) (l ++ [13, 10]) → R (some (.int (I (m + 6) (46 + 10 * i) - 100))) S I' P) : pmX E (d + 1) 0 0 yX10_guestSize [rr E m, .int tab] S I P R := by
  refine pm_of (by decide) cd_X10_guestSize (by decide) (by decide) (Nat.le_of_ble_eq_true rfl) ?_
  intro C G hq
  obtain ⟨g0, ⟨r0, r1, r2, r3, r4, r5, r6, r7, r8, r9, r10, r11, r12, r13, r14⟩, ⟨s1, s2, s3, s4, s5, s6, s7, s8, s9, s10, s11, s12, s13, s14, s15⟩⟩ := id hM
  have hkv : I (m + 6) (44 + 10 * i) = 4 := by rw [iN_of hk, hkd]; rfl
  refine z_aload_n G dX10_guestSize_0 rfl ?_
  refine z_iload_n G dX10_guestSize_1 rfl ?_
  refine z_V G lk_X10_242 dX10_guestSize_2 [_] rfl rfl rfl (Nat.le_of_ble_eq_true rfl) ⟨Nat.le_refl _, Nat.le_refl _⟩ (by assumption) ?_
  refine k_X10_kindIn hM hi hi5 ?_
  rw [hkv]
  refine z_iconst G (v := 5) dX10_guestSize_5 (by decide) ?_
  refine z_icmp_ne G 13 dX10_guestSize_6 (by decide) (fun _ => ?_) (fun c => absurd c (by decide))
  refine z_iconst G (v := 0) dX10_guestSize_13 (by decide) ?_
  refine z_istore_n G dX10_guestSize_14 (Nat.le_of_ble_eq_true rfl) rfl ?_
  refine z_iload_n G dX10_guestSize_15 rfl ?_
  refine z_if_eq G 25 dX10_guestSize_16 (by decide) (fun _ => ?_) (fun c => absurd c (by decide))
  refine z_aload_n G dX10_guestSize_25 rfl ?_
  refine z_bipush G (v := 13) dX10_guestSize_26 (by decide) ?_
  refine z_V G lk_X10_248 dX10_guestSize_28 [_] rfl rfl rfl (Nat.le_of_ble_eq_true rfl) ⟨Nat.le_refl _, Nat.le_refl _⟩ (by assumption) ?_
  refine k_X10_begins hM hT (by (try simp only [List.length_append, List.length_cons, List.length_nil]); omega) (fun I1 f1 t1 => ?_)
  refine z_aload_n G dX10_guestSize_31 rfl ?_
  refine z_bipush G (v := 10) dX10_guestSize_32 (by decide) ?_
  refine z_V G lk_X10_248 dX10_guestSize_34 [_] rfl rfl rfl (Nat.le_of_ble_eq_true rfl) ⟨Nat.le_refl _, Nat.le_refl _⟩ (by assumption) ?_
  refine k_X10_begins hM t1 (by (try simp only [List.length_append, List.length_cons, List.length_nil]); omega) (fun I2 f2 t2 => ?_)
  refine z_aload_n G dX10_guestSize_37 rfl ?_
  refine z_getR G fl_X10_25 rfl dX10_guestSize_38 (by assumption) (by assumption) ?_
  refine z_bipush G (v := 44) dX10_guestSize_41 (by decide) ?_
  refine z_bipush G (v := 10) dX10_guestSize_43 (by decide) ?_
  refine z_iload_n G dX10_guestSize_45 rfl ?_
  refine z_imul G dX10_guestSize_46 ?_
  refine z_iadd G dX10_guestSize_47 ?_
  refine z_iconst G (v := 2) dX10_guestSize_48 (by decide) ?_
  refine z_iadd G dX10_guestSize_49 ?_
  refine z_iald G (46 + 10 * i) dX10_guestSize_50 (by assumption) (by simp (disch := omega) only [iN_lit, iN_add, iN_sub, iN_mul, iN_an, iN_of hi]; exact iN_ti2 (by omega) (by omega)) (by omega) ?_
  rw [((f1.tr f2).1 (m + 6) (by omega) (by omega))]
  refine z_bipush G (v := 100) dX10_guestSize_51 (by decide) ?_
  refine z_isub G dX10_guestSize_53 ?_
  refine z_istore_n G dX10_guestSize_54 (Nat.le_of_ble_eq_true rfl) rfl ?_
  refine z_iload_n G dX10_guestSize_55 rfl ?_
  refine z_if_eq G 65 dX10_guestSize_56 (by decide) (fun _ => ?_) (fun c => absurd c (by decide))
  refine z_iload_n G dX10_guestSize_65 rfl ?_
  exact z_iret G hq dX10_guestSize_66 (h I2 (f1.tr f2) (by simpa only [List.append_assoc, List.cons_append, List.nil_append] using t2))
set_option maxHeartbeats 1000000 in
set_option maxRecDepth 20000 in
theorem k_X10_guestSize5 {E : pmE} {d : Nat} {S : pmS} {I : pmI} {P : pmP} {R : Option Value → pmS → pmI → pmP → Prop} {m : Nat} (hM : MG S P m) {i s kd : Nat} {tab : Int32} (hi : tab.toInt = (i : Int)) (hi5 : i < 5) (hk : (I (m + 6) (44 + 10 * i)).toInt = (kd : Int)) (hk1 : 1 ≤ kd) (hk5 : kd ≤ 5) (hsh : (I (m + 6) (47 + 10 * i)).toInt = (s : Int)) (hs6 : s < 6) {l : List Int32} (hT : Tr (I m 24) (I (m + 15)) l) (hkd : kd = 5) (hl : l.length + 3 ≤ 16) (h : ∀ I', FrB I I' m → Tr (I' m 24) (I' (m + 15)) (l ++ [14, 13, 10]) → R (some (.int (2 * (I (m + 6) (46 + 10 * i) - 100)))) S I' P) : pmX E (d + 1) 0 0 yX10_guestSize [rr E m, .int tab] S I P R := by
  refine pm_of (by decide) cd_X10_guestSize (by decide) (by decide) (Nat.le_of_ble_eq_true rfl) ?_
  intro C G hq
  obtain ⟨g0, ⟨r0, r1, r2, r3, r4, r5, r6, r7, r8, r9, r10, r11, r12, r13, r14⟩, ⟨s1, s2, s3, s4, s5, s6, s7, s8, s9, s10, s11, s12, s13, s14, s15⟩⟩ := id hM
  have hkv : I (m + 6) (44 + 10 * i) = 5 := by rw [iN_of hk, hkd]; rfl
  refine z_aload_n G dX10_guestSize_0 rfl ?_
  refine z_iload_n G dX10_guestSize_1 rfl ?_
  refine z_V G lk_X10_242 dX10_guestSize_2 [_] rfl rfl rfl (Nat.le_of_ble_eq_true rfl) ⟨Nat.le_refl _, Nat.le_refl _⟩ (by assumption) ?_
  refine k_X10_kindIn hM hi hi5 ?_
  rw [hkv]
  refine z_iconst G (v := 5) dX10_guestSize_5 (by decide) ?_
  refine z_icmp_ne G 13 dX10_guestSize_6 (by decide) (fun c => absurd c (by decide)) (fun _ => ?_)
  refine z_iconst G (v := 1) dX10_guestSize_9 (by decide) ?_
  refine z_goto G 14 dX10_guestSize_10 (by decide) ?_
  refine z_istore_n G dX10_guestSize_14 (Nat.le_of_ble_eq_true rfl) rfl ?_
  refine z_iload_n G dX10_guestSize_15 rfl ?_
  refine z_if_eq G 25 dX10_guestSize_16 (by decide) (fun c => absurd c (by decide)) (fun _ => ?_)
  refine z_aload_n G dX10_guestSize_19 rfl ?_
  refine z_bipush G (v := 14) dX10_guestSize_20 (by decide) ?_
  refine z_V G lk_X10_248 dX10_guestSize_22 [_] rfl rfl rfl (Nat.le_of_ble_eq_true rfl) ⟨Nat.le_refl _, Nat.le_refl _⟩ (by assumption) ?_
  refine k_X10_begins hM hT (by (try simp only [List.length_append, List.length_cons, List.length_nil]); omega) (fun I1 f1 t1 => ?_)
  refine z_aload_n G dX10_guestSize_25 rfl ?_
  refine z_bipush G (v := 13) dX10_guestSize_26 (by decide) ?_
  refine z_V G lk_X10_248 dX10_guestSize_28 [_] rfl rfl rfl (Nat.le_of_ble_eq_true rfl) ⟨Nat.le_refl _, Nat.le_refl _⟩ (by assumption) ?_
  refine k_X10_begins hM t1 (by (try simp only [List.length_append, List.length_cons, List.length_nil]); omega) (fun I2 f2 t2 => ?_)
  refine z_aload_n G dX10_guestSize_31 rfl ?_
  refine z_bipush G (v := 10) dX10_guestSize_32 (by decide) ?_
  refine z_V G lk_X10_248 dX10_guestSize_34 [_] rfl rfl rfl (Nat.le_of_ble_eq_true rfl) ⟨Nat.le_refl _, Nat.le_refl _⟩ (by assumption) ?_
  refine k_X10_begins hM t2 (by (try simp only [List.length_append, List.length_cons, List.length_nil]); omega) (fun I3 f3 t3 => ?_)
  refine z_aload_n G dX10_guestSize_37 rfl ?_
  refine z_getR G fl_X10_25 rfl dX10_guestSize_38 (by assumption) (by assumption) ?_
  refine z_bipush G (v := 44) dX10_guestSize_41 (by decide) ?_
  refine z_bipush G (v := 10) dX10_guestSize_43 (by decide) ?_
  refine z_iload_n G dX10_guestSize_45 rfl ?_
  refine z_imul G dX10_guestSize_46 ?_
  refine z_iadd G dX10_guestSize_47 ?_
  refine z_iconst G (v := 2) dX10_guestSize_48 (by decide) ?_
  refine z_iadd G dX10_guestSize_49 ?_
  refine z_iald G (46 + 10 * i) dX10_guestSize_50 (by assumption) (by simp (disch := omega) only [iN_lit, iN_add, iN_sub, iN_mul, iN_an, iN_of hi]; exact iN_ti2 (by omega) (by omega)) (by omega) ?_
  rw [(((f1.tr f2).tr f3).1 (m + 6) (by omega) (by omega))]
  refine z_bipush G (v := 100) dX10_guestSize_51 (by decide) ?_
  refine z_isub G dX10_guestSize_53 ?_
  refine z_istore_n G dX10_guestSize_54 (Nat.le_of_ble_eq_true rfl) rfl ?_
  refine z_iload_n G dX10_guestSize_55 rfl ?_
  refine z_if_eq G 65 dX10_guestSize_56 (by decide) (fun c => absurd c (by decide)) (fun _ => ?_)
  refine z_iconst G (v := 2) dX10_guestSize_59 (by decide) ?_
  refine z_iload_n G dX10_guestSize_60 rfl ?_
  refine z_imul G dX10_guestSize_61 ?_
  refine z_goto G 66 dX10_guestSize_62 (by decide) ?_
  exact z_iret G hq dX10_guestSize_66 (h I3 ((f1.tr f2).tr f3) (by simpa only [List.append_assoc, List.cons_append, List.nil_append] using t3))
set_option maxHeartbeats 1000000 in
set_option maxRecDepth 20000 in
theorem k_X10_plainSize1 {E : pmE} {d : Nat} {S : pmS} {I : pmI} {P : pmP} {R : Option Value → pmS → pmI → pmP → Prop} {m : Nat} (hM : MG S P m) {i s kd : Nat} {tab : Int32} (hi : tab.toInt = (i : Int)) (hi5 : i < 5) (hk : (I (m + 6) (44 + 10 * i)).toInt = (kd : Int)) (hk1 : 1 ≤ kd) (hk5 : kd ≤ 5) (hsh : (I (m + 6) (47 + 10 * i)).toInt = (s : Int)) (hs6 : s < 6) {l : List Int32} (hT : Tr (I m 24) (I (m + 15)) l) (hkd : kd = 1) (hl : l.length + 4 ≤ 16) (h : ∀ I', FrB I I' m → Tr (I' m 24) (I' (m + 15)) (l ++ [11, 10, 21, 20]) → R (some (.int (I (m + 6) (46 + 10 * i) + (tab + I (m + 6) (48 + 10 * i + s))))) S I' P) : pmX E (d + 2) 0 0 yX10_plainSize [rr E m, .int tab] S I P R := by
  refine pm_of (by decide) cd_X10_plainSize (by decide) (by decide) (Nat.le_of_ble_eq_true rfl) ?_
  intro C G hq
  obtain ⟨g0, ⟨r0, r1, r2, r3, r4, r5, r6, r7, r8, r9, r10, r11, r12, r13, r14⟩, ⟨s1, s2, s3, s4, s5, s6, s7, s8, s9, s10, s11, s12, s13, s14, s15⟩⟩ := id hM
  have hkv : I (m + 6) (44 + 10 * i) = 1 := by rw [iN_of hk, hkd]; rfl
  refine z_aload_n G dX10_plainSize_0 rfl ?_
  refine z_iload_n G dX10_plainSize_1 rfl ?_
  refine z_V G lk_X10_242 dX10_plainSize_2 [_] rfl rfl rfl (Nat.le_of_ble_eq_true rfl) ⟨Nat.le_refl _, Nat.le_refl _⟩ (by assumption) ?_
  refine k_X10_kindIn hM hi hi5 ?_
  rw [hkv]
  refine z_iconst G (v := 2) dX10_plainSize_5 (by decide) ?_
  refine z_icmp_ne G 13 dX10_plainSize_6 (by decide) (fun _ => ?_) (fun c => absurd c (by decide))
  refine z_iconst G (v := 0) dX10_plainSize_13 (by decide) ?_
  refine z_istore_n G dX10_plainSize_14 (Nat.le_of_ble_eq_true rfl) rfl ?_
  refine z_iload_n G dX10_plainSize_15 rfl ?_
  refine z_if_eq G 25 dX10_plainSize_16 (by decide) (fun _ => ?_) (fun c => absurd c (by decide))
  refine z_aload_n G dX10_plainSize_25 rfl ?_
  refine z_bipush G (v := 11) dX10_plainSize_26 (by decide) ?_
  refine z_V G lk_X10_248 dX10_plainSize_28 [_] rfl rfl rfl (Nat.le_of_ble_eq_true rfl) ⟨Nat.le_refl _, Nat.le_refl _⟩ (by assumption) ?_
  refine k_X10_begins hM hT (by (try simp only [List.length_append, List.length_cons, List.length_nil]); omega) (fun I1 f1 t1 => ?_)
  refine z_aload_n G dX10_plainSize_31 rfl ?_
  refine z_bipush G (v := 10) dX10_plainSize_32 (by decide) ?_
  refine z_V G lk_X10_248 dX10_plainSize_34 [_] rfl rfl rfl (Nat.le_of_ble_eq_true rfl) ⟨Nat.le_refl _, Nat.le_refl _⟩ (by assumption) ?_
  refine k_X10_begins hM t1 (by (try simp only [List.length_append, List.length_cons, List.length_nil]); omega) (fun I2 f2 t2 => ?_)
  refine z_aload_n G dX10_plainSize_37 rfl ?_
  refine z_getR G fl_X10_25 rfl dX10_plainSize_38 (by assumption) (by assumption) ?_
  refine z_bipush G (v := 44) dX10_plainSize_41 (by decide) ?_
  refine z_bipush G (v := 10) dX10_plainSize_43 (by decide) ?_
  refine z_iload_n G dX10_plainSize_45 rfl ?_
  refine z_imul G dX10_plainSize_46 ?_
  refine z_iadd G dX10_plainSize_47 ?_
  refine z_iconst G (v := 2) dX10_plainSize_48 (by decide) ?_
  refine z_iadd G dX10_plainSize_49 ?_
  refine z_iald G (46 + 10 * i) dX10_plainSize_50 (by assumption) (by simp (disch := omega) only [iN_lit, iN_add, iN_sub, iN_mul, iN_an, iN_of hi]; exact iN_ti2 (by omega) (by omega)) (by omega) ?_
  rw [((f1.tr f2).1 (m + 6) (by omega) (by omega))]
  refine z_aload_n G dX10_plainSize_51 rfl ?_
  refine z_iload_n G dX10_plainSize_52 rfl ?_
  refine z_V G lk_X10_251 dX10_plainSize_53 [_] rfl rfl rfl (Nat.le_of_ble_eq_true rfl) ⟨Nat.le_refl _, Nat.le_refl _⟩ (by assumption) ?_
  refine k_X10_plainMark1 hM hi hi5 (by rw [((f1.tr f2).1 (m + 6) (by omega) (by omega))]; exact hk) hk1 hk5 (by rw [((f1.tr f2).1 (m + 6) (by omega) (by omega))]; exact hsh) hs6 t2 hkd (by (try simp only [List.length_append, List.length_cons, List.length_nil]); omega) (fun I3 f3 t3 => ?_)
  rw [((f1.tr f2).1 (m + 6) (by omega) (by omega))]
  refine z_iadd G dX10_plainSize_56 ?_
  refine z_istore_n G dX10_plainSize_57 (Nat.le_of_ble_eq_true rfl) rfl ?_
  refine z_iload_n G dX10_plainSize_58 rfl ?_
  refine z_if_eq G 67 dX10_plainSize_59 (by decide) (fun _ => ?_) (fun c => absurd c (by decide))
  refine z_iload_n G dX10_plainSize_67 rfl ?_
  exact z_iret G hq dX10_plainSize_68 (h I3 ((f1.tr f2).tr f3) (by simpa only [List.append_assoc, List.cons_append, List.nil_append] using t3))
set_option maxHeartbeats 1000000 in
set_option maxRecDepth 20000 in
theorem k_X10_plainSize2 {E : pmE} {d : Nat} {S : pmS} {I : pmI} {P : pmP} {R : Option Value → pmS → pmI → pmP → Prop} {m : Nat} (hM : MG S P m) {i s kd : Nat} {tab : Int32} (hi : tab.toInt = (i : Int)) (hi5 : i < 5) (hk : (I (m + 6) (44 + 10 * i)).toInt = (kd : Int)) (hk1 : 1 ≤ kd) (hk5 : kd ≤ 5) (hsh : (I (m + 6) (47 + 10 * i)).toInt = (s : Int)) (hs6 : s < 6) {l : List Int32} (hT : Tr (I m 24) (I (m + 15)) l) (hkd : kd = 2) (hl : l.length + 6 ≤ 16) (h : ∀ I', FrB I I' m → Tr (I' m 24) (I' (m + 15)) (l ++ [12, 11, 10, 24, 21, 20]) → R (some (.int (-(I (m + 6) (46 + 10 * i) + (2 * (tab + I (m + 6) (48 + 10 * i + s))))))) S I' P) : pmX E (d + 2) 0 0 yX10_plainSize [rr E m, .int tab] S I P R := by
  refine pm_of (by decide) cd_X10_plainSize (by decide) (by decide) (Nat.le_of_ble_eq_true rfl) ?_
  intro C G hq
  obtain ⟨g0, ⟨r0, r1, r2, r3, r4, r5, r6, r7, r8, r9, r10, r11, r12, r13, r14⟩, ⟨s1, s2, s3, s4, s5, s6, s7, s8, s9, s10, s11, s12, s13, s14, s15⟩⟩ := id hM
  have hkv : I (m + 6) (44 + 10 * i) = 2 := by rw [iN_of hk, hkd]; rfl
  refine z_aload_n G dX10_plainSize_0 rfl ?_
  refine z_iload_n G dX10_plainSize_1 rfl ?_
  refine z_V G lk_X10_242 dX10_plainSize_2 [_] rfl rfl rfl (Nat.le_of_ble_eq_true rfl) ⟨Nat.le_refl _, Nat.le_refl _⟩ (by assumption) ?_
  refine k_X10_kindIn hM hi hi5 ?_
  rw [hkv]
  refine z_iconst G (v := 2) dX10_plainSize_5 (by decide) ?_
  refine z_icmp_ne G 13 dX10_plainSize_6 (by decide) (fun c => absurd c (by decide)) (fun _ => ?_)
  refine z_iconst G (v := 1) dX10_plainSize_9 (by decide) ?_
  refine z_goto G 14 dX10_plainSize_10 (by decide) ?_
  refine z_istore_n G dX10_plainSize_14 (Nat.le_of_ble_eq_true rfl) rfl ?_
  refine z_iload_n G dX10_plainSize_15 rfl ?_
  refine z_if_eq G 25 dX10_plainSize_16 (by decide) (fun c => absurd c (by decide)) (fun _ => ?_)
  refine z_aload_n G dX10_plainSize_19 rfl ?_
  refine z_bipush G (v := 12) dX10_plainSize_20 (by decide) ?_
  refine z_V G lk_X10_248 dX10_plainSize_22 [_] rfl rfl rfl (Nat.le_of_ble_eq_true rfl) ⟨Nat.le_refl _, Nat.le_refl _⟩ (by assumption) ?_
  refine k_X10_begins hM hT (by (try simp only [List.length_append, List.length_cons, List.length_nil]); omega) (fun I1 f1 t1 => ?_)
  refine z_aload_n G dX10_plainSize_25 rfl ?_
  refine z_bipush G (v := 11) dX10_plainSize_26 (by decide) ?_
  refine z_V G lk_X10_248 dX10_plainSize_28 [_] rfl rfl rfl (Nat.le_of_ble_eq_true rfl) ⟨Nat.le_refl _, Nat.le_refl _⟩ (by assumption) ?_
  refine k_X10_begins hM t1 (by (try simp only [List.length_append, List.length_cons, List.length_nil]); omega) (fun I2 f2 t2 => ?_)
  refine z_aload_n G dX10_plainSize_31 rfl ?_
  refine z_bipush G (v := 10) dX10_plainSize_32 (by decide) ?_
  refine z_V G lk_X10_248 dX10_plainSize_34 [_] rfl rfl rfl (Nat.le_of_ble_eq_true rfl) ⟨Nat.le_refl _, Nat.le_refl _⟩ (by assumption) ?_
  refine k_X10_begins hM t2 (by (try simp only [List.length_append, List.length_cons, List.length_nil]); omega) (fun I3 f3 t3 => ?_)
  refine z_aload_n G dX10_plainSize_37 rfl ?_
  refine z_getR G fl_X10_25 rfl dX10_plainSize_38 (by assumption) (by assumption) ?_
  refine z_bipush G (v := 44) dX10_plainSize_41 (by decide) ?_
  refine z_bipush G (v := 10) dX10_plainSize_43 (by decide) ?_
  refine z_iload_n G dX10_plainSize_45 rfl ?_
  refine z_imul G dX10_plainSize_46 ?_
  refine z_iadd G dX10_plainSize_47 ?_
  refine z_iconst G (v := 2) dX10_plainSize_48 (by decide) ?_
  refine z_iadd G dX10_plainSize_49 ?_
  refine z_iald G (46 + 10 * i) dX10_plainSize_50 (by assumption) (by simp (disch := omega) only [iN_lit, iN_add, iN_sub, iN_mul, iN_an, iN_of hi]; exact iN_ti2 (by omega) (by omega)) (by omega) ?_
  rw [(((f1.tr f2).tr f3).1 (m + 6) (by omega) (by omega))]
  refine z_aload_n G dX10_plainSize_51 rfl ?_
  refine z_iload_n G dX10_plainSize_52 rfl ?_
  refine z_V G lk_X10_251 dX10_plainSize_53 [_] rfl rfl rfl (Nat.le_of_ble_eq_true rfl) ⟨Nat.le_refl _, Nat.le_refl _⟩ (by assumption) ?_
  refine k_X10_plainMark2 hM hi hi5 (by rw [(((f1.tr f2).tr f3).1 (m + 6) (by omega) (by omega))]; exact hk) hk1 hk5 (by rw [(((f1.tr f2).tr f3).1 (m + 6) (by omega) (by omega))]; exact hsh) hs6 t3 hkd (by (try simp only [List.length_append, List.length_cons, List.length_nil]); omega) (fun I4 f4 t4 => ?_)
  rw [(((f1.tr f2).tr f3).1 (m + 6) (by omega) (by omega))]
  refine z_iadd G dX10_plainSize_56 ?_
  refine z_istore_n G dX10_plainSize_57 (Nat.le_of_ble_eq_true rfl) rfl ?_
  refine z_iload_n G dX10_plainSize_58 rfl ?_
  refine z_if_eq G 67 dX10_plainSize_59 (by decide) (fun c => absurd c (by decide)) (fun _ => ?_)
  refine z_iload_n G dX10_plainSize_62 rfl ?_
  refine z_ineg G dX10_plainSize_63 ?_
  refine z_goto G 68 dX10_plainSize_64 (by decide) ?_
  exact z_iret G hq dX10_plainSize_68 (h I4 (((f1.tr f2).tr f3).tr f4) (by simpa only [List.append_assoc, List.cons_append, List.nil_append] using t4))
set_option maxHeartbeats 1000000 in
set_option maxRecDepth 20000 in
theorem k_X10_plainSize3 {E : pmE} {d : Nat} {S : pmS} {I : pmI} {P : pmP} {R : Option Value → pmS → pmI → pmP → Prop} {m : Nat} (hM : MG S P m) {i s kd : Nat} {tab : Int32} (hi : tab.toInt = (i : Int)) (hi5 : i < 5) (hk : (I (m + 6) (44 + 10 * i)).toInt = (kd : Int)) (hk1 : 1 ≤ kd) (hk5 : kd ≤ 5) (hsh : (I (m + 6) (47 + 10 * i)).toInt = (s : Int)) (hs6 : s < 6) {l : List Int32} (hT : Tr (I m 24) (I (m + 15)) l) (hkd : kd = 3) (hl : l.length + 5 ≤ 16) (h : ∀ I', FrB I I' m → Tr (I' m 24) (I' (m + 15)) (l ++ [11, 10, 22, 21, 20]) → R (some (.int (I (m + 6) (46 + 10 * i) + ((tab + I (m + 6) (48 + 10 * i + s)) - 1000)))) S I' P) : pmX E (d + 2) 0 0 yX10_plainSize [rr E m, .int tab] S I P R := by
  refine pm_of (by decide) cd_X10_plainSize (by decide) (by decide) (Nat.le_of_ble_eq_true rfl) ?_
  intro C G hq
  obtain ⟨g0, ⟨r0, r1, r2, r3, r4, r5, r6, r7, r8, r9, r10, r11, r12, r13, r14⟩, ⟨s1, s2, s3, s4, s5, s6, s7, s8, s9, s10, s11, s12, s13, s14, s15⟩⟩ := id hM
  have hkv : I (m + 6) (44 + 10 * i) = 3 := by rw [iN_of hk, hkd]; rfl
  refine z_aload_n G dX10_plainSize_0 rfl ?_
  refine z_iload_n G dX10_plainSize_1 rfl ?_
  refine z_V G lk_X10_242 dX10_plainSize_2 [_] rfl rfl rfl (Nat.le_of_ble_eq_true rfl) ⟨Nat.le_refl _, Nat.le_refl _⟩ (by assumption) ?_
  refine k_X10_kindIn hM hi hi5 ?_
  rw [hkv]
  refine z_iconst G (v := 2) dX10_plainSize_5 (by decide) ?_
  refine z_icmp_ne G 13 dX10_plainSize_6 (by decide) (fun _ => ?_) (fun c => absurd c (by decide))
  refine z_iconst G (v := 0) dX10_plainSize_13 (by decide) ?_
  refine z_istore_n G dX10_plainSize_14 (Nat.le_of_ble_eq_true rfl) rfl ?_
  refine z_iload_n G dX10_plainSize_15 rfl ?_
  refine z_if_eq G 25 dX10_plainSize_16 (by decide) (fun _ => ?_) (fun c => absurd c (by decide))
  refine z_aload_n G dX10_plainSize_25 rfl ?_
  refine z_bipush G (v := 11) dX10_plainSize_26 (by decide) ?_
  refine z_V G lk_X10_248 dX10_plainSize_28 [_] rfl rfl rfl (Nat.le_of_ble_eq_true rfl) ⟨Nat.le_refl _, Nat.le_refl _⟩ (by assumption) ?_
  refine k_X10_begins hM hT (by (try simp only [List.length_append, List.length_cons, List.length_nil]); omega) (fun I1 f1 t1 => ?_)
  refine z_aload_n G dX10_plainSize_31 rfl ?_
  refine z_bipush G (v := 10) dX10_plainSize_32 (by decide) ?_
  refine z_V G lk_X10_248 dX10_plainSize_34 [_] rfl rfl rfl (Nat.le_of_ble_eq_true rfl) ⟨Nat.le_refl _, Nat.le_refl _⟩ (by assumption) ?_
  refine k_X10_begins hM t1 (by (try simp only [List.length_append, List.length_cons, List.length_nil]); omega) (fun I2 f2 t2 => ?_)
  refine z_aload_n G dX10_plainSize_37 rfl ?_
  refine z_getR G fl_X10_25 rfl dX10_plainSize_38 (by assumption) (by assumption) ?_
  refine z_bipush G (v := 44) dX10_plainSize_41 (by decide) ?_
  refine z_bipush G (v := 10) dX10_plainSize_43 (by decide) ?_
  refine z_iload_n G dX10_plainSize_45 rfl ?_
  refine z_imul G dX10_plainSize_46 ?_
  refine z_iadd G dX10_plainSize_47 ?_
  refine z_iconst G (v := 2) dX10_plainSize_48 (by decide) ?_
  refine z_iadd G dX10_plainSize_49 ?_
  refine z_iald G (46 + 10 * i) dX10_plainSize_50 (by assumption) (by simp (disch := omega) only [iN_lit, iN_add, iN_sub, iN_mul, iN_an, iN_of hi]; exact iN_ti2 (by omega) (by omega)) (by omega) ?_
  rw [((f1.tr f2).1 (m + 6) (by omega) (by omega))]
  refine z_aload_n G dX10_plainSize_51 rfl ?_
  refine z_iload_n G dX10_plainSize_52 rfl ?_
  refine z_V G lk_X10_251 dX10_plainSize_53 [_] rfl rfl rfl (Nat.le_of_ble_eq_true rfl) ⟨Nat.le_refl _, Nat.le_refl _⟩ (by assumption) ?_
  refine k_X10_plainMark3 hM hi hi5 (by rw [((f1.tr f2).1 (m + 6) (by omega) (by omega))]; exact hk) hk1 hk5 (by rw [((f1.tr f2).1 (m + 6) (by omega) (by omega))]; exact hsh) hs6 t2 hkd (by (try simp only [List.length_append, List.length_cons, List.length_nil]); omega) (fun I3 f3 t3 => ?_)
  rw [((f1.tr f2).1 (m + 6) (by omega) (by omega))]
  refine z_iadd G dX10_plainSize_56 ?_
  refine z_istore_n G dX10_plainSize_57 (Nat.le_of_ble_eq_true rfl) rfl ?_
  refine z_iload_n G dX10_plainSize_58 rfl ?_
  refine z_if_eq G 67 dX10_plainSize_59 (by decide) (fun _ => ?_) (fun c => absurd c (by decide))
  refine z_iload_n G dX10_plainSize_67 rfl ?_
  exact z_iret G hq dX10_plainSize_68 (h I3 ((f1.tr f2).tr f3) (by simpa only [List.append_assoc, List.cons_append, List.nil_append] using t3))
set_option maxHeartbeats 1000000 in
set_option maxRecDepth 20000 in
theorem k_X10_guestMark4 {E : pmE} {d : Nat} {S : pmS} {I : pmI} {P : pmP} {R : Option Value → pmS → pmI → pmP → Prop} {m : Nat} (hM : MG S P m) {i s kd : Nat} {tab : Int32} (hi : tab.toInt = (i : Int)) (hi5 : i < 5) (hk : (I (m + 6) (44 + 10 * i)).toInt = (kd : Int)) (hk1 : 1 ≤ kd) (hk5 : kd ≤ 5) (hsh : (I (m + 6) (47 + 10 * i)).toInt = (s : Int)) (hs6 : s < 6) {l : List Int32} (hT : Tr (I m 24) (I (m + 15)) l) (hkd : kd = 4) (hl : l.length + 4 ≤ 16) (h : ∀ I', FrB I I' m → Tr (I' m 24) (I' (m + 15)) (l ++ [23, 20, 13, 10]) → R (some (.int (tab - (I (m + 6) (46 + 10 * i) - 100)))) S I' P) : pmX E (d + 2) 0 0 yX10_guestMark [rr E m, .int tab] S I P R := by
  refine pm_of (by decide) cd_X10_guestMark (by decide) (by decide) (Nat.le_of_ble_eq_true rfl) ?_
  intro C G hq
  obtain ⟨g0, ⟨r0, r1, r2, r3, r4, r5, r6, r7, r8, r9, r10, r11, r12, r13, r14⟩, ⟨s1, s2, s3, s4, s5, s6, s7, s8, s9, s10, s11, s12, s13, s14, s15⟩⟩ := id hM
  refine z_aload_n G dX10_guestMark_0 rfl ?_
  refine z_bipush G (v := 23) dX10_guestMark_1 (by decide) ?_
  refine z_V G lk_X10_248 dX10_guestMark_3 [_] rfl rfl rfl (Nat.le_of_ble_eq_true rfl) ⟨Nat.le_refl _, Nat.le_refl _⟩ (by assumption) ?_
  refine k_X10_begins hM hT (by (try simp only [List.length_append, List.length_cons, List.length_nil]); omega) (fun I1 f1 t1 => ?_)
  refine z_aload_n G dX10_guestMark_6 rfl ?_
  refine z_bipush G (v := 20) dX10_guestMark_7 (by decide) ?_
  refine z_V G lk_X10_248 dX10_guestMark_9 [_] rfl rfl rfl (Nat.le_of_ble_eq_true rfl) ⟨Nat.le_refl _, Nat.le_refl _⟩ (by assumption) ?_
  refine k_X10_begins hM t1 (by (try simp only [List.length_append, List.length_cons, List.length_nil]); omega) (fun I2 f2 t2 => ?_)
  refine z_iload_n G dX10_guestMark_12 rfl ?_
  refine z_aload_n G dX10_guestMark_13 rfl ?_
  refine z_iload_n G dX10_guestMark_14 rfl ?_
  refine z_V G lk_X10_254 dX10_guestMark_15 [_] rfl rfl rfl (Nat.le_of_ble_eq_true rfl) ⟨Nat.le_refl _, Nat.le_refl _⟩ (by assumption) ?_
  refine k_X10_guestSize4 hM hi hi5 (by rw [((f1.tr f2).1 (m + 6) (by omega) (by omega))]; exact hk) hk1 hk5 (by rw [((f1.tr f2).1 (m + 6) (by omega) (by omega))]; exact hsh) hs6 t2 hkd (by (try simp only [List.length_append, List.length_cons, List.length_nil]); omega) (fun I3 f3 t3 => ?_)
  rw [((f1.tr f2).1 (m + 6) (by omega) (by omega))]
  refine z_isub G dX10_guestMark_18 ?_
  exact z_iret G hq dX10_guestMark_19 (h I3 ((f1.tr f2).tr f3) (by simpa only [List.append_assoc, List.cons_append, List.nil_append] using t3))
set_option maxHeartbeats 1000000 in
set_option maxRecDepth 20000 in
theorem k_X10_guestMark5 {E : pmE} {d : Nat} {S : pmS} {I : pmI} {P : pmP} {R : Option Value → pmS → pmI → pmP → Prop} {m : Nat} (hM : MG S P m) {i s kd : Nat} {tab : Int32} (hi : tab.toInt = (i : Int)) (hi5 : i < 5) (hk : (I (m + 6) (44 + 10 * i)).toInt = (kd : Int)) (hk1 : 1 ≤ kd) (hk5 : kd ≤ 5) (hsh : (I (m + 6) (47 + 10 * i)).toInt = (s : Int)) (hs6 : s < 6) {l : List Int32} (hT : Tr (I m 24) (I (m + 15)) l) (hkd : kd = 5) (hl : l.length + 5 ≤ 16) (h : ∀ I', FrB I I' m → Tr (I' m 24) (I' (m + 15)) (l ++ [23, 20, 14, 13, 10]) → R (some (.int (tab - (2 * (I (m + 6) (46 + 10 * i) - 100))))) S I' P) : pmX E (d + 2) 0 0 yX10_guestMark [rr E m, .int tab] S I P R := by
  refine pm_of (by decide) cd_X10_guestMark (by decide) (by decide) (Nat.le_of_ble_eq_true rfl) ?_
  intro C G hq
  obtain ⟨g0, ⟨r0, r1, r2, r3, r4, r5, r6, r7, r8, r9, r10, r11, r12, r13, r14⟩, ⟨s1, s2, s3, s4, s5, s6, s7, s8, s9, s10, s11, s12, s13, s14, s15⟩⟩ := id hM
  refine z_aload_n G dX10_guestMark_0 rfl ?_
  refine z_bipush G (v := 23) dX10_guestMark_1 (by decide) ?_
  refine z_V G lk_X10_248 dX10_guestMark_3 [_] rfl rfl rfl (Nat.le_of_ble_eq_true rfl) ⟨Nat.le_refl _, Nat.le_refl _⟩ (by assumption) ?_
  refine k_X10_begins hM hT (by (try simp only [List.length_append, List.length_cons, List.length_nil]); omega) (fun I1 f1 t1 => ?_)
  refine z_aload_n G dX10_guestMark_6 rfl ?_
  refine z_bipush G (v := 20) dX10_guestMark_7 (by decide) ?_
  refine z_V G lk_X10_248 dX10_guestMark_9 [_] rfl rfl rfl (Nat.le_of_ble_eq_true rfl) ⟨Nat.le_refl _, Nat.le_refl _⟩ (by assumption) ?_
  refine k_X10_begins hM t1 (by (try simp only [List.length_append, List.length_cons, List.length_nil]); omega) (fun I2 f2 t2 => ?_)
  refine z_iload_n G dX10_guestMark_12 rfl ?_
  refine z_aload_n G dX10_guestMark_13 rfl ?_
  refine z_iload_n G dX10_guestMark_14 rfl ?_
  refine z_V G lk_X10_254 dX10_guestMark_15 [_] rfl rfl rfl (Nat.le_of_ble_eq_true rfl) ⟨Nat.le_refl _, Nat.le_refl _⟩ (by assumption) ?_
  refine k_X10_guestSize5 hM hi hi5 (by rw [((f1.tr f2).1 (m + 6) (by omega) (by omega))]; exact hk) hk1 hk5 (by rw [((f1.tr f2).1 (m + 6) (by omega) (by omega))]; exact hsh) hs6 t2 hkd (by (try simp only [List.length_append, List.length_cons, List.length_nil]); omega) (fun I3 f3 t3 => ?_)
  rw [((f1.tr f2).1 (m + 6) (by omega) (by omega))]
  refine z_isub G dX10_guestMark_18 ?_
  exact z_iret G hq dX10_guestMark_19 (h I3 ((f1.tr f2).tr f3) (by simpa only [List.append_assoc, List.cons_append, List.nil_append] using t3))
set_option maxHeartbeats 1000000 in
set_option maxRecDepth 20000 in
theorem k_X10_ask {E : pmE} {d : Nat} {S : pmS} {I : pmI} {P : pmP} {R : Option Value → pmS → pmI → pmP → Prop} {m : Nat} (hM : MG S P m) {T : Nat} (hT : (I (m + 6) 1).toInt = (T : Int)) (hT5 : T ≤ 5) (hsn : ∀ i, i < T → ∃ kd s : Nat, (I (m + 6) (44 + 10 * i)).toInt = (kd : Int) ∧ 1 ≤ kd ∧ kd ≤ 5 ∧ (I (m + 6) (47 + 10 * i)).toInt = (s : Int) ∧ s < 6 ∧ (s : Int) < (I (m + 6) (46 + 10 * i)).toInt) {tab what : Int32} (hb : (¬ ∃ i k : Nat, tab.toInt = (i : Int) ∧ i < T ∧ what.toInt = (k : Int) ∧ k ≤ 1) → R (some (.int (-1000001))) S I P) (h0 : ∀ i kd s : Nat, tab.toInt = (i : Int) → i < T → what = 0 → (I (m + 6) (44 + 10 * i)).toInt = (kd : Int) → (I (m + 6) (47 + 10 * i)).toInt = (s : Int) → ∀ I', FrB I I' m → Tr (I' m 24) (I' (m + 15)) (askS kd (I (m + 6) (46 + 10 * i)) tab (I (m + 6) (48 + 10 * i + s))).1 → R (some (.int (askS kd (I (m + 6) (46 + 10 * i)) tab (I (m + 6) (48 + 10 * i + s))).2)) S I' P) (h1 : ∀ i kd s : Nat, tab.toInt = (i : Int) → i < T → what = 1 → (I (m + 6) (44 + 10 * i)).toInt = (kd : Int) → (I (m + 6) (47 + 10 * i)).toInt = (s : Int) → ∀ I', FrB I I' m → Tr (I' m 24) (I' (m + 15)) (askM kd (I (m + 6) (46 + 10 * i)) tab (I (m + 6) (48 + 10 * i + s))).1 → R (some (.int (askM kd (I (m + 6) (46 + 10 * i)) tab (I (m + 6) (48 + 10 * i + s))).2)) S I' P) : pmX E (d + 3) 0 0 yX10_ask [rr E m, .int tab, .int what] S I P R := by
  refine pm_of (by decide) cd_X10_ask (by decide) (by decide) (Nat.le_of_ble_eq_true rfl) ?_
  intro C G hq
  obtain ⟨g0, ⟨r0, r1, r2, r3, r4, r5, r6, r7, r8, r9, r10, r11, r12, r13, r14⟩, ⟨s1, s2, s3, s4, s5, s6, s7, s8, s9, s10, s11, s12, s13, s14, s15⟩⟩ := id hM
  refine z_aload_n G dX10_ask_0 rfl ?_
  refine z_iload_n G dX10_ask_1 rfl ?_
  refine z_V G lk_X10_202 dX10_ask_2 [_] rfl rfl rfl (Nat.le_of_ble_eq_true rfl) ⟨Nat.le_refl _, Nat.le_refl _⟩ (by assumption) ?_
  refine k_X10_isTab hM hT (by omega) ?_ ?_
  · intro i hi hiT
    refine z_if_eq G 17 dX10_ask_5 (by decide) (fun c => absurd c (by decide)) (fun _ => ?_)
    refine z_iload_n G dX10_ask_8 rfl ?_
    refine z_iconst G (v := 0) dX10_ask_9 (by decide) ?_
    refine z_iconst G (v := 1) dX10_ask_10 (by decide) ?_
    refine z_S G lk_X10_62 dX10_ask_11 [_, _, _] rfl rfl rfl (Nat.le_of_ble_eq_true rfl) ⟨Nat.le_refl _, Nat.le_refl _⟩ ?_
    refine k_X10_in ?_ ?_
    · intro hin
      refine z_if_ne G 20 dX10_ask_14 (by decide) (fun _ => ?_) (fun c => absurd c (by decide))
      obtain ⟨kd, s, k1, k2, k3, s1, s2, s3⟩ := hsn i hiT
      have hw01 : what = 0 ∨ what = 1 := by simp only [ti_eq, ti_lt, ti_le, Int32.reduceToInt] at *; omega
      refine z_aload_n G dX10_ask_20 rfl ?_
      refine z_iconst G (v := 0) dX10_ask_21 (by decide) ?_
      refine z_putI G fl_X10_245 ft_10_24 rfl rfl rfl dX10_ask_22 (by assumption) ?_
      obtain ⟨J, eJ⟩ : ∃ J : pmI, J = va_up I m (va_up (I m) 24 0) := ⟨_, rfl⟩
      rw [← eJ]
      have j1 : FrB I J m := ⟨fun k a b => by rw [eJ]; exact va_ne' a, fun j hj => by rw [eJ, va_up_self]; exact va_ne' hj⟩
      have j6 : J (m + 6) = I (m + 6) := j1.1 _ (by omega) (by omega)
      have jT : Tr (J m 24) (J (m + 15)) [] := by rw [eJ, va_up_self, va_up_self]; exact Tr.nil
      rcases (show kd = 1 ∨ kd = 2 ∨ kd = 3 ∨ kd = 4 ∨ kd = 5 by omega) with e | e | e | e | e
      · refine z_aload_n G dX10_ask_25 rfl ?_
        refine z_iload_n G dX10_ask_26 rfl ?_
        refine z_V G lk_X10_242 dX10_ask_27 [_] rfl rfl rfl (Nat.le_of_ble_eq_true rfl) ⟨Nat.le_refl _, Nat.le_refl _⟩ (by assumption) ?_
        refine k_X10_kindIn hM hi (by omega) ?_
        rw [j6, show I (m + 6) (44 + 10 * i) = 1 by rw [iN_of k1, e]; rfl]
        refine z_iconst G (v := 4) dX10_ask_30 (by decide) ?_
        refine z_icmp_lt G 38 dX10_ask_31 (by decide) (fun _ => ?_) (fun c => absurd c (by decide))
        refine z_iconst G (v := 0) dX10_ask_38 (by decide) ?_
        refine z_istore_n G dX10_ask_39 (Nat.le_of_ble_eq_true rfl) rfl ?_
        refine z_iload_n G dX10_ask_40 rfl ?_
        refine z_if_ne G 62 dX10_ask_41 (by decide) (fun b41 => ?_) (fun b41 => ?_)
        · refine z_iload_n G dX10_ask_62 rfl ?_
          refine z_if_eq G 74 dX10_ask_63 (by decide) (fun _ => ?_) (fun c => absurd c (by decide))
          refine z_aload_n G dX10_ask_74 rfl ?_
          refine z_iload_n G dX10_ask_75 rfl ?_
          refine z_V G lk_X10_251 dX10_ask_76 [_] rfl rfl rfl (Nat.le_of_ble_eq_true rfl) ⟨Nat.le_refl _, Nat.le_refl _⟩ (by assumption) ?_
          refine k_X10_plainMark1 (hM) hi (by omega) (by rw [j6]; exact k1) k2 k3 (by rw [j6]; exact s1) s2 jT e (by simp) (fun I1 f1 t1 => ?_)
          rw [j6]
          exact z_iret G hq dX10_ask_79 (by have hh := h1 i kd s hi hiT (hw01.resolve_left b41) k1 s1 I1 (j1.tr f1); subst e; exact hh t1)
        · refine z_iload_n G dX10_ask_44 rfl ?_
          refine z_if_eq G 56 dX10_ask_45 (by decide) (fun _ => ?_) (fun c => absurd c (by decide))
          refine z_aload_n G dX10_ask_56 rfl ?_
          refine z_iload_n G dX10_ask_57 rfl ?_
          refine z_V G lk_X10_257 dX10_ask_58 [_] rfl rfl rfl (Nat.le_of_ble_eq_true rfl) ⟨Nat.le_refl _, Nat.le_refl _⟩ (by assumption) ?_
          refine k_X10_plainSize1 (hM) hi (by omega) (by rw [j6]; exact k1) k2 k3 (by rw [j6]; exact s1) s2 jT e (by simp) (fun I1 f1 t1 => ?_)
          rw [j6]
          exact z_iret G hq dX10_ask_61 (by have hh := h0 i kd s hi hiT b41 k1 s1 I1 (j1.tr f1); subst e; exact hh t1)
      · refine z_aload_n G dX10_ask_25 rfl ?_
        refine z_iload_n G dX10_ask_26 rfl ?_
        refine z_V G lk_X10_242 dX10_ask_27 [_] rfl rfl rfl (Nat.le_of_ble_eq_true rfl) ⟨Nat.le_refl _, Nat.le_refl _⟩ (by assumption) ?_
        refine k_X10_kindIn hM hi (by omega) ?_
        rw [j6, show I (m + 6) (44 + 10 * i) = 2 by rw [iN_of k1, e]; rfl]
        refine z_iconst G (v := 4) dX10_ask_30 (by decide) ?_
        refine z_icmp_lt G 38 dX10_ask_31 (by decide) (fun _ => ?_) (fun c => absurd c (by decide))
        refine z_iconst G (v := 0) dX10_ask_38 (by decide) ?_
        refine z_istore_n G dX10_ask_39 (Nat.le_of_ble_eq_true rfl) rfl ?_
        refine z_iload_n G dX10_ask_40 rfl ?_
        refine z_if_ne G 62 dX10_ask_41 (by decide) (fun b41 => ?_) (fun b41 => ?_)
        · refine z_iload_n G dX10_ask_62 rfl ?_
          refine z_if_eq G 74 dX10_ask_63 (by decide) (fun _ => ?_) (fun c => absurd c (by decide))
          refine z_aload_n G dX10_ask_74 rfl ?_
          refine z_iload_n G dX10_ask_75 rfl ?_
          refine z_V G lk_X10_251 dX10_ask_76 [_] rfl rfl rfl (Nat.le_of_ble_eq_true rfl) ⟨Nat.le_refl _, Nat.le_refl _⟩ (by assumption) ?_
          refine k_X10_plainMark2 (hM) hi (by omega) (by rw [j6]; exact k1) k2 k3 (by rw [j6]; exact s1) s2 jT e (by simp) (fun I1 f1 t1 => ?_)
          rw [j6]
          exact z_iret G hq dX10_ask_79 (by have hh := h1 i kd s hi hiT (hw01.resolve_left b41) k1 s1 I1 (j1.tr f1); subst e; exact hh t1)
        · refine z_iload_n G dX10_ask_44 rfl ?_
          refine z_if_eq G 56 dX10_ask_45 (by decide) (fun _ => ?_) (fun c => absurd c (by decide))
          refine z_aload_n G dX10_ask_56 rfl ?_
          refine z_iload_n G dX10_ask_57 rfl ?_
          refine z_V G lk_X10_257 dX10_ask_58 [_] rfl rfl rfl (Nat.le_of_ble_eq_true rfl) ⟨Nat.le_refl _, Nat.le_refl _⟩ (by assumption) ?_
          refine k_X10_plainSize2 (hM) hi (by omega) (by rw [j6]; exact k1) k2 k3 (by rw [j6]; exact s1) s2 jT e (by simp) (fun I1 f1 t1 => ?_)
          rw [j6]
          exact z_iret G hq dX10_ask_61 (by have hh := h0 i kd s hi hiT b41 k1 s1 I1 (j1.tr f1); subst e; exact hh t1)
      · refine z_aload_n G dX10_ask_25 rfl ?_
        refine z_iload_n G dX10_ask_26 rfl ?_
        refine z_V G lk_X10_242 dX10_ask_27 [_] rfl rfl rfl (Nat.le_of_ble_eq_true rfl) ⟨Nat.le_refl _, Nat.le_refl _⟩ (by assumption) ?_
        refine k_X10_kindIn hM hi (by omega) ?_
        rw [j6, show I (m + 6) (44 + 10 * i) = 3 by rw [iN_of k1, e]; rfl]
        refine z_iconst G (v := 4) dX10_ask_30 (by decide) ?_
        refine z_icmp_lt G 38 dX10_ask_31 (by decide) (fun _ => ?_) (fun c => absurd c (by decide))
        refine z_iconst G (v := 0) dX10_ask_38 (by decide) ?_
        refine z_istore_n G dX10_ask_39 (Nat.le_of_ble_eq_true rfl) rfl ?_
        refine z_iload_n G dX10_ask_40 rfl ?_
        refine z_if_ne G 62 dX10_ask_41 (by decide) (fun b41 => ?_) (fun b41 => ?_)
        · refine z_iload_n G dX10_ask_62 rfl ?_
          refine z_if_eq G 74 dX10_ask_63 (by decide) (fun _ => ?_) (fun c => absurd c (by decide))
          refine z_aload_n G dX10_ask_74 rfl ?_
          refine z_iload_n G dX10_ask_75 rfl ?_
          refine z_V G lk_X10_251 dX10_ask_76 [_] rfl rfl rfl (Nat.le_of_ble_eq_true rfl) ⟨Nat.le_refl _, Nat.le_refl _⟩ (by assumption) ?_
          refine k_X10_plainMark3 (hM) hi (by omega) (by rw [j6]; exact k1) k2 k3 (by rw [j6]; exact s1) s2 jT e (by simp) (fun I1 f1 t1 => ?_)
          rw [j6]
          exact z_iret G hq dX10_ask_79 (by have hh := h1 i kd s hi hiT (hw01.resolve_left b41) k1 s1 I1 (j1.tr f1); subst e; exact hh t1)
        · refine z_iload_n G dX10_ask_44 rfl ?_
          refine z_if_eq G 56 dX10_ask_45 (by decide) (fun _ => ?_) (fun c => absurd c (by decide))
          refine z_aload_n G dX10_ask_56 rfl ?_
          refine z_iload_n G dX10_ask_57 rfl ?_
          refine z_V G lk_X10_257 dX10_ask_58 [_] rfl rfl rfl (Nat.le_of_ble_eq_true rfl) ⟨Nat.le_refl _, Nat.le_refl _⟩ (by assumption) ?_
          refine k_X10_plainSize3 (hM) hi (by omega) (by rw [j6]; exact k1) k2 k3 (by rw [j6]; exact s1) s2 jT e (by simp) (fun I1 f1 t1 => ?_)
          rw [j6]
          exact z_iret G hq dX10_ask_61 (by have hh := h0 i kd s hi hiT b41 k1 s1 I1 (j1.tr f1); subst e; exact hh t1)
      · refine z_aload_n G dX10_ask_25 rfl ?_
        refine z_iload_n G dX10_ask_26 rfl ?_
        refine z_V G lk_X10_242 dX10_ask_27 [_] rfl rfl rfl (Nat.le_of_ble_eq_true rfl) ⟨Nat.le_refl _, Nat.le_refl _⟩ (by assumption) ?_
        refine k_X10_kindIn hM hi (by omega) ?_
        rw [j6, show I (m + 6) (44 + 10 * i) = 4 by rw [iN_of k1, e]; rfl]
        refine z_iconst G (v := 4) dX10_ask_30 (by decide) ?_
        refine z_icmp_lt G 38 dX10_ask_31 (by decide) (fun c => absurd c (by decide)) (fun _ => ?_)
        refine z_iconst G (v := 1) dX10_ask_34 (by decide) ?_
        refine z_goto G 39 dX10_ask_35 (by decide) ?_
        refine z_istore_n G dX10_ask_39 (Nat.le_of_ble_eq_true rfl) rfl ?_
        refine z_iload_n G dX10_ask_40 rfl ?_
        refine z_if_ne G 62 dX10_ask_41 (by decide) (fun b41 => ?_) (fun b41 => ?_)
        · refine z_iload_n G dX10_ask_62 rfl ?_
          refine z_if_eq G 74 dX10_ask_63 (by decide) (fun c => absurd c (by decide)) (fun _ => ?_)
          refine z_aload_n G dX10_ask_66 rfl ?_
          refine z_iload_n G dX10_ask_67 rfl ?_
          refine z_V G lk_X10_260 dX10_ask_68 [_] rfl rfl rfl (Nat.le_of_ble_eq_true rfl) ⟨Nat.le_refl _, Nat.le_refl _⟩ (by assumption) ?_
          refine k_X10_guestMark4 (hM) hi (by omega) (by rw [j6]; exact k1) k2 k3 (by rw [j6]; exact s1) s2 jT e (by simp) (fun I1 f1 t1 => ?_)
          rw [j6]
          refine z_goto G 79 dX10_ask_71 (by decide) ?_
          exact z_iret G hq dX10_ask_79 (by have hh := h1 i kd s hi hiT (hw01.resolve_left b41) k1 s1 I1 (j1.tr f1); subst e; exact hh t1)
        · refine z_iload_n G dX10_ask_44 rfl ?_
          refine z_if_eq G 56 dX10_ask_45 (by decide) (fun c => absurd c (by decide)) (fun _ => ?_)
          refine z_aload_n G dX10_ask_48 rfl ?_
          refine z_iload_n G dX10_ask_49 rfl ?_
          refine z_V G lk_X10_254 dX10_ask_50 [_] rfl rfl rfl (Nat.le_of_ble_eq_true rfl) ⟨Nat.le_refl _, Nat.le_refl _⟩ (by assumption) ?_
          refine k_X10_guestSize4 (hM) hi (by omega) (by rw [j6]; exact k1) k2 k3 (by rw [j6]; exact s1) s2 jT e (by simp) (fun I1 f1 t1 => ?_)
          rw [j6]
          refine z_goto G 61 dX10_ask_53 (by decide) ?_
          exact z_iret G hq dX10_ask_61 (by have hh := h0 i kd s hi hiT b41 k1 s1 I1 (j1.tr f1); subst e; exact hh t1)
      · refine z_aload_n G dX10_ask_25 rfl ?_
        refine z_iload_n G dX10_ask_26 rfl ?_
        refine z_V G lk_X10_242 dX10_ask_27 [_] rfl rfl rfl (Nat.le_of_ble_eq_true rfl) ⟨Nat.le_refl _, Nat.le_refl _⟩ (by assumption) ?_
        refine k_X10_kindIn hM hi (by omega) ?_
        rw [j6, show I (m + 6) (44 + 10 * i) = 5 by rw [iN_of k1, e]; rfl]
        refine z_iconst G (v := 4) dX10_ask_30 (by decide) ?_
        refine z_icmp_lt G 38 dX10_ask_31 (by decide) (fun c => absurd c (by decide)) (fun _ => ?_)
        refine z_iconst G (v := 1) dX10_ask_34 (by decide) ?_
        refine z_goto G 39 dX10_ask_35 (by decide) ?_
        refine z_istore_n G dX10_ask_39 (Nat.le_of_ble_eq_true rfl) rfl ?_
        refine z_iload_n G dX10_ask_40 rfl ?_
        refine z_if_ne G 62 dX10_ask_41 (by decide) (fun b41 => ?_) (fun b41 => ?_)
        · refine z_iload_n G dX10_ask_62 rfl ?_
          refine z_if_eq G 74 dX10_ask_63 (by decide) (fun c => absurd c (by decide)) (fun _ => ?_)
          refine z_aload_n G dX10_ask_66 rfl ?_
          refine z_iload_n G dX10_ask_67 rfl ?_
          refine z_V G lk_X10_260 dX10_ask_68 [_] rfl rfl rfl (Nat.le_of_ble_eq_true rfl) ⟨Nat.le_refl _, Nat.le_refl _⟩ (by assumption) ?_
          refine k_X10_guestMark5 (hM) hi (by omega) (by rw [j6]; exact k1) k2 k3 (by rw [j6]; exact s1) s2 jT e (by simp) (fun I1 f1 t1 => ?_)
          rw [j6]
          refine z_goto G 79 dX10_ask_71 (by decide) ?_
          exact z_iret G hq dX10_ask_79 (by have hh := h1 i kd s hi hiT (hw01.resolve_left b41) k1 s1 I1 (j1.tr f1); subst e; exact hh t1)
        · refine z_iload_n G dX10_ask_44 rfl ?_
          refine z_if_eq G 56 dX10_ask_45 (by decide) (fun c => absurd c (by decide)) (fun _ => ?_)
          refine z_aload_n G dX10_ask_48 rfl ?_
          refine z_iload_n G dX10_ask_49 rfl ?_
          refine z_V G lk_X10_254 dX10_ask_50 [_] rfl rfl rfl (Nat.le_of_ble_eq_true rfl) ⟨Nat.le_refl _, Nat.le_refl _⟩ (by assumption) ?_
          refine k_X10_guestSize5 (hM) hi (by omega) (by rw [j6]; exact k1) k2 k3 (by rw [j6]; exact s1) s2 jT e (by simp) (fun I1 f1 t1 => ?_)
          rw [j6]
          refine z_goto G 61 dX10_ask_53 (by decide) ?_
          exact z_iret G hq dX10_ask_61 (by have hh := h0 i kd s hi hiT b41 k1 s1 I1 (j1.tr f1); subst e; exact hh t1)
    · intro hin
      refine z_if_ne G 20 dX10_ask_14 (by decide) (fun c => absurd c (by decide)) (fun _ => ?_)
      refine z_ldc G ct_X10_70 dX10_ask_17 ?_
      exact z_iret G hq dX10_ask_19 (hb (fun ⟨i, k, _, _, q1, q2⟩ => hin (by simp only [ti_lt, ti_le, Int32.reduceToInt]; omega)))
  · intro hnt
    refine z_if_eq G 17 dX10_ask_5 (by decide) (fun _ => ?_) (fun c => absurd c (by decide))
    refine z_ldc G ct_X10_70 dX10_ask_17 ?_
    exact z_iret G hq dX10_ask_19 (hb (fun ⟨i, k, q1, q2, _⟩ => hnt ⟨i, q1, q2⟩))
set_option maxHeartbeats 1000000 in
set_option maxRecDepth 20000 in
theorem k_X10_trace {E : pmE} {d : Nat} {S : pmS} {I : pmI} {P : pmP} {R : Option Value → pmS → pmI → pmP → Prop} {m : Nat} (hM : MG S P m) {l : List Int32} (hT : Tr (I m 24) (I (m + 15)) l) (hl : l.length ≤ 16) {i : Int32} (h1 : ∀ (j : Nat) (v : Int32), i.toInt = (j : Int) → l[j]? = some v → R (some (.int v)) S I P) (h0 : (¬ ∃ j : Nat, i.toInt = (j : Int) ∧ j < l.length) → R (some (.int (-1000000))) S I P) : pmX E (d + 1) 0 0 yX10_trace [rr E m, .int i] S I P R := by
  refine pm_of (by decide) cd_X10_trace (by decide) (by decide) (Nat.le_of_ble_eq_true rfl) ?_
  intro C G hq
  obtain ⟨g0, ⟨r0, r1, r2, r3, r4, r5, r6, r7, r8, r9, r10, r11, r12, r13, r14⟩, ⟨s1, s2, s3, s4, s5, s6, s7, s8, s9, s10, s11, s12, s13, s14, s15⟩⟩ := id hM
  refine z_iload_n G dX10_trace_0 rfl ?_
  refine z_iconst G (v := 0) dX10_trace_1 (by decide) ?_
  refine z_aload_n G dX10_trace_2 rfl ?_
  refine z_getI G fl_X10_245 rfl dX10_trace_3 (by assumption) ?_
  refine z_iconst G (v := 1) dX10_trace_6 (by decide) ?_
  refine z_isub G dX10_trace_7 ?_
  refine z_S G lk_X10_62 dX10_trace_8 [_, _, _] rfl rfl rfl (Nat.le_of_ble_eq_true rfl) ⟨Nat.le_refl _, Nat.le_refl _⟩ ?_
  refine k_X10_in ?_ ?_
  · intro hin
    refine z_if_eq G 23 dX10_trace_11 (by decide) (fun c => absurd c (by decide)) (fun _ => ?_)
    obtain ⟨j, hj, hjl⟩ : ∃ j : Nat, i.toInt = (j : Int) ∧ j < l.length := ⟨i.toInt.toNat, by simp only [ti_lt, ti_le, Int32.reduceToInt, ti_sub, hT.1] at hin; omega, by simp only [ti_lt, ti_le, Int32.reduceToInt, ti_sub, hT.1] at hin; omega⟩
    have hv : l[j]? = some l[j] := List.getElem?_eq_getElem hjl
    refine z_aload_n G dX10_trace_14 rfl ?_
    refine z_getR G fl_X10_53 rfl dX10_trace_15 (by assumption) (by assumption) ?_
    refine z_iload_n G dX10_trace_18 rfl ?_
    refine z_iald G (j) dX10_trace_19 (by assumption) (hj) (by omega) ?_
    refine z_goto G 25 dX10_trace_20 (by decide) ?_
    exact z_iret G hq dX10_trace_25 (by rw [hT.2 j _ hv]; exact h1 j _ hj hv)
  · intro hin
    refine z_if_eq G 23 dX10_trace_11 (by decide) (fun _ => ?_) (fun c => absurd c (by decide))
    refine z_ldc G ct_X10_56 dX10_trace_23 ?_
    exact z_iret G hq dX10_trace_25 (h0 (fun ⟨j, q1, q2⟩ => hin (by simp only [ti_lt, ti_le, Int32.reduceToInt, ti_sub, hT.1]; omega)))
