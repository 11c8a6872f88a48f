set_option maxHeartbeats 1000000 in
set_option maxRecDepth 20000 in
theorem k_X0_leave {E : pmE} {d : Nat} {S : pmS} {I : pmI} {P : pmP} {R : Option Value → pmS → pmI → pmP → Prop} (hA : AG S P) {l : List Int32} {v : Int32} (hT : Tr (I 594 1) (I 595) l) (hl : l.length < 16) (h : ∀ I', FrA I I' → Tr (I' 594 1) (I' 595) (l ++ [v]) → R none S I' P) : pmX E d 0 0 yX0_leave [rr E 594, .int v] S I P R := by
  refine pm_of (by decide) cd_X0_leave (by decide) (by decide) (Nat.le_of_ble_eq_true rfl) ?_
  intro C G hq
  obtain ⟨g1, g2, g3⟩ := id hA
  refine z_aload_n G dX0_leave_0 rfl ?_
  refine z_getI G fl_X0_13 rfl dX0_leave_1 (by assumption) ?_
  refine z_if_lt G 36 dX0_leave_4 (by decide) (fun c => absurd c (by simp only [ti_lt, ti_le, Int32.reduceToInt, hT.1]; omega)) (fun _ => ?_)
  refine z_aload_n G dX0_leave_7 rfl ?_
  refine z_getI G fl_X0_13 rfl dX0_leave_8 (by assumption) ?_
  refine z_bipush G (v := 16) dX0_leave_11 (by decide) ?_
  refine z_icmp_ge G 36 dX0_leave_13 (by decide) (fun c => absurd c (by simp only [ti_lt, ti_le, Int32.reduceToInt, hT.1]; omega)) (fun _ => ?_)
  refine z_aload_n G dX0_leave_16 rfl ?_
  refine z_getR G fl_X0_9 rfl dX0_leave_17 (by assumption) (by assumption) ?_
  refine z_aload_n G dX0_leave_20 rfl ?_
  refine z_getI G fl_X0_13 rfl dX0_leave_21 (by assumption) ?_
  refine z_iload_n G dX0_leave_24 rfl ?_
  refine z_iast G (l.length) dX0_leave_25 (by assumption) (hT.1) (by omega) ?_
  refine z_aload_n G dX0_leave_26 rfl ?_
  refine z_dup G dX0_leave_27 rfl ?_
  refine z_getI G fl_X0_13 rfl dX0_leave_28 (by assumption) ?_
  try simp (disch := omega) only [va_at', va_ne', va_up_up]
  refine z_iconst G (v := 1) dX0_leave_31 (by decide) ?_
  refine z_iadd G dX0_leave_32 ?_
  refine z_top (y := iN (l.length + 1)) (by rw [iN_of hT.1, iN_lit, iN_add]) ?_
  refine z_putI G fl_X0_13 ft_0_1 rfl rfl rfl dX0_leave_33 (by assumption) ?_
  exact z_vret G hq dX0_leave_36 (h _ ⟨fun k a b => by rw [va_ne' a, va_ne' b], by simp (disch := omega) only [va_at', va_ne', va_up_up]⟩ (by simp (disch := omega) only [va_at', va_ne', va_up_up]; exact hT.snoc hl))
set_option maxHeartbeats 1000000 in
set_option maxRecDepth 20000 in
theorem k_X0_sizeBody {E : pmE} {d : Nat} {S : pmS} {I : pmI} {P : pmP} {R : Option Value → pmS → pmI → pmP → Prop} {tt kd : Nat} (ht : TabG S P tt) (hk : (I tt 1).toInt = (kd : Int)) (hk5 : kd ≤ 5) (h : R (some (.int (pm_st 1 kd))) S I P) : pmX E d 0 0 yX0_sizeBody [rr E tt] S I P R := by
  refine pm_of (by decide) cd_X0_sizeBody (by decide) (by decide) (Nat.le_of_ble_eq_true rfl) ?_
  intro C G hq
  obtain ⟨g1, g2, g3⟩ := id ht
  refine z_aload_n G dX0_sizeBody_0 rfl ?_
  refine z_getI G fl_X0_44 rfl dX0_sizeBody_1 (by assumption) ?_
  refine z_if_lt G 29 dX0_sizeBody_4 (by decide) (fun c => absurd c (by simp only [ti_lt, ti_le, Int32.reduceToInt, hk]; omega)) (fun _ => ?_)
  refine z_aload_n G dX0_sizeBody_7 rfl ?_
  refine z_getI G fl_X0_44 rfl dX0_sizeBody_8 (by assumption) ?_
  refine z_gets G 1 (by decide) fs_X0_47 rfl dX0_sizeBody_11 ?_
  refine z_tlen G 1 (by decide) dX0_sizeBody_14 ?_
  refine z_icmp_ge G 29 dX0_sizeBody_15 (by decide) (fun c => absurd c (by simp only [ti_lt, ti_le, Int32.reduceToInt, hk]; omega)) (fun _ => ?_)
  refine z_gets G 1 (by decide) fs_X0_47 rfl dX0_sizeBody_18 ?_
  refine z_aload_n G dX0_sizeBody_21 rfl ?_
  refine z_getI G fl_X0_44 rfl dX0_sizeBody_22 (by assumption) ?_
  refine z_tald G 1 (kd) (by decide) dX0_sizeBody_25 (hk) (by omega) ?_
  refine z_goto G 31 dX0_sizeBody_26 (by decide) ?_
  exact z_iret G hq dX0_sizeBody_31 (h)
set_option maxHeartbeats 1000000 in
set_option maxRecDepth 20000 in
theorem k_X0_markBody {E : pmE} {d : Nat} {S : pmS} {I : pmI} {P : pmP} {R : Option Value → pmS → pmI → pmP → Prop} {tt kd : Nat} (ht : TabG S P tt) (hk : (I tt 1).toInt = (kd : Int)) (hk5 : kd ≤ 5) (h : R (some (.int (pm_st 2 kd))) S I P) : pmX E d 0 0 yX0_markBody [rr E tt] S I P R := by
  refine pm_of (by decide) cd_X0_markBody (by decide) (by decide) (Nat.le_of_ble_eq_true rfl) ?_
  intro C G hq
  obtain ⟨g1, g2, g3⟩ := id ht
  refine z_aload_n G dX0_markBody_0 rfl ?_
  refine z_getI G fl_X0_44 rfl dX0_markBody_1 (by assumption) ?_
  refine z_if_lt G 29 dX0_markBody_4 (by decide) (fun c => absurd c (by simp only [ti_lt, ti_le, Int32.reduceToInt, hk]; omega)) (fun _ => ?_)
  refine z_aload_n G dX0_markBody_7 rfl ?_
  refine z_getI G fl_X0_44 rfl dX0_markBody_8 (by assumption) ?_
  refine z_gets G 2 (by decide) fs_X0_50 rfl dX0_markBody_11 ?_
  refine z_tlen G 2 (by decide) dX0_markBody_14 ?_
  refine z_icmp_ge G 29 dX0_markBody_15 (by decide) (fun c => absurd c (by simp only [ti_lt, ti_le, Int32.reduceToInt, hk]; omega)) (fun _ => ?_)
  refine z_gets G 2 (by decide) fs_X0_50 rfl dX0_markBody_18 ?_
  refine z_aload_n G dX0_markBody_21 rfl ?_
  refine z_getI G fl_X0_44 rfl dX0_markBody_22 (by assumption) ?_
  refine z_tald G 2 (kd) (by decide) dX0_markBody_25 (hk) (by omega) ?_
  refine z_goto G 31 dX0_markBody_26 (by decide) ?_
  exact z_iret G hq dX0_markBody_31 (h)
set_option maxHeartbeats 1000000 in
set_option maxRecDepth 20000 in
theorem kB_10 {E : pmE} {d : Nat} {S : pmS} {I : pmI} {P : pmP} {R : Option Value → pmS → pmI → pmP → Prop} (hA : AG S P) {tt s dp kd : Nat} {δ : Int32} (ht : TabG S P tt) (hsh : (I tt 4).toInt = (s : Int)) (hs6 : s < 6) (hk : (I tt 1).toInt = (kd : Int)) (hk1 : 1 ≤ kd) (hk5 : kd ≤ 5) (hδ : δ.toInt = (dp : Int)) {l : List Int32} (hT : Tr (I 594 1) (I 595) l) (hap : tt + 1 < 594) (hdp : dp + 0 < 16) (hl : l.length + 1 ≤ 16) (h : ∀ I', FrA I I' → Tr (I' 594 1) (I' 595) (l ++ [10]) → R (some (.int (I tt 3))) S I' P) : pmX E (d + 1) 0 0 yX0_body [rr E 594, .int 10, rr E tt, .int δ] S I P R := by
  refine pm_of (by decide) cd_X0_body (by decide) (by decide) (Nat.le_of_ble_eq_true rfl) ?_
  intro C G hq
  obtain ⟨g1, g2, g3⟩ := id hA
  obtain ⟨q1, q2, q3⟩ := id ht
  refine z_iload_n G dX0_body_0 rfl ?_
  refine z_bipush G (v := 16) dX0_body_1 (by decide) ?_
  refine z_icmp_lt G 8 dX0_body_3 (by decide) (fun _ => ?_) (fun c => absurd c (fun z => z (by simp (disch := omega) only [iN_lit, iN_add, iN_sub, iN_mul, iN_an, iN_le, iN_lt, iN_eq, iN_of hδ]; omega)))
  refine z_aload_n G dX0_body_8 rfl ?_
  refine z_iload_n G dX0_body_9 rfl ?_
  refine z_V G lk_X0_31 dX0_body_10 [_] rfl rfl rfl (Nat.le_of_ble_eq_true rfl) ⟨Nat.le_refl _, Nat.le_refl _⟩ hA.1 ?_
  refine k_X0_leave hA hT (by omega) (fun I1 f1 t1 => ?_)
  refine z_iload_n G dX0_body_13 rfl ?_
  refine z_iconst G (v := 1) dX0_body_14 (by decide) ?_
  refine z_iadd G dX0_body_15 ?_
  refine z_istore G dX0_body_16 (Nat.le_of_ble_eq_true rfl) rfl ?_
  refine z_iload_n G dX0_body_18 rfl ?_
  refine z_tin G 92 dX0_body_19 (by decide) (by decide) rfl (by decide) ?_
  refine z_aload_n G dX0_body_92 rfl ?_
  refine z_getI G fl_X0_35 rfl dX0_body_93 (by assumption) ?_
  rw [f1.1 _ (by omega) (by omega)]
  exact z_iret G hq dX0_body_96 (h I1 f1 t1)
set_option maxHeartbeats 1000000 in
set_option maxRecDepth 20000 in
theorem kB_20 {E : pmE} {d : Nat} {S : pmS} {I : pmI} {P : pmP} {R : Option Value → pmS → pmI → pmP → Prop} (hA : AG S P) {tt s dp kd : Nat} {δ : Int32} (ht : TabG S P tt) (hsh : (I tt 4).toInt = (s : Int)) (hs6 : s < 6) (hk : (I tt 1).toInt = (kd : Int)) (hk1 : 1 ≤ kd) (hk5 : kd ≤ 5) (hδ : δ.toInt = (dp : Int)) {l : List Int32} (hT : Tr (I 594 1) (I 595) l) (hap : tt + 1 < 594) (hdp : dp + 0 < 16) (hl : l.length + 1 ≤ 16) (h : ∀ I', FrA I I' → Tr (I' 594 1) (I' 595) (l ++ [20]) → R (some (.int (I 594 2))) S I' P) : pmX E (d + 1) 0 0 yX0_body [rr E 594, .int 20, rr E tt, .int δ] S I P R := by
  refine pm_of (by decide) cd_X0_body (by decide) (by decide) (Nat.le_of_ble_eq_true rfl) ?_
  intro C G hq
  obtain ⟨g1, g2, g3⟩ := id hA
  obtain ⟨q1, q2, q3⟩ := id ht
  refine z_iload_n G dX0_body_0 rfl ?_
  refine z_bipush G (v := 16) dX0_body_1 (by decide) ?_
  refine z_icmp_lt G 8 dX0_body_3 (by decide) (fun _ => ?_) (fun c => absurd c (fun z => z (by simp (disch := omega) only [iN_lit, iN_add, iN_sub, iN_mul, iN_an, iN_le, iN_lt, iN_eq, iN_of hδ]; omega)))
  refine z_aload_n G dX0_body_8 rfl ?_
  refine z_iload_n G dX0_body_9 rfl ?_
  refine z_V G lk_X0_31 dX0_body_10 [_] rfl rfl rfl (Nat.le_of_ble_eq_true rfl) ⟨Nat.le_refl _, Nat.le_refl _⟩ hA.1 ?_
  refine k_X0_leave hA hT (by omega) (fun I1 f1 t1 => ?_)
  refine z_iload_n G dX0_body_13 rfl ?_
  refine z_iconst G (v := 1) dX0_body_14 (by decide) ?_
  refine z_iadd G dX0_body_15 ?_
  refine z_istore G dX0_body_16 (Nat.le_of_ble_eq_true rfl) rfl ?_
  refine z_iload_n G dX0_body_18 rfl ?_
  refine z_tin G 155 dX0_body_19 (by decide) (by decide) rfl (by decide) ?_
  refine z_aload_n G dX0_body_155 rfl ?_
  refine z_getI G fl_X0_17 rfl dX0_body_156 (by assumption) ?_
  rw [f1.2]
  exact z_iret G hq dX0_body_159 (h I1 f1 t1)
set_option maxHeartbeats 1000000 in
set_option maxRecDepth 20000 in
theorem kB_21 {E : pmE} {d : Nat} {S : pmS} {I : pmI} {P : pmP} {R : Option Value → pmS → pmI → pmP → Prop} (hA : AG S P) {tt s dp kd : Nat} {δ : Int32} (ht : TabG S P tt) (hsh : (I tt 4).toInt = (s : Int)) (hs6 : s < 6) (hk : (I tt 1).toInt = (kd : Int)) (hk1 : 1 ≤ kd) (hk5 : kd ≤ 5) (hδ : δ.toInt = (dp : Int)) {l : List Int32} (hT : Tr (I 594 1) (I 595) l) (hap : tt + 1 < 594) (hdp : dp + 1 < 16) (hl : l.length + 2 ≤ 16) (h : ∀ I', FrA I I' → Tr (I' 594 1) (I' 595) (l ++ [21, 20]) → R (some (.int (I 594 2 + I (tt + 1) s))) S I' P) : pmX E (d + 2) 0 0 yX0_body [rr E 594, .int 21, rr E tt, .int δ] S I P R := by
  refine pm_of (by decide) cd_X0_body (by decide) (by decide) (Nat.le_of_ble_eq_true rfl) ?_
  intro C G hq
  obtain ⟨g1, g2, g3⟩ := id hA
  obtain ⟨q1, q2, q3⟩ := id ht
  refine z_iload_n G dX0_body_0 rfl ?_
  refine z_bipush G (v := 16) dX0_body_1 (by decide) ?_
  refine z_icmp_lt G 8 dX0_body_3 (by decide) (fun _ => ?_) (fun c => absurd c (fun z => z (by simp (disch := omega) only [iN_lit, iN_add, iN_sub, iN_mul, iN_an, iN_le, iN_lt, iN_eq, iN_of hδ]; omega)))
  refine z_aload_n G dX0_body_8 rfl ?_
  refine z_iload_n G dX0_body_9 rfl ?_
  refine z_V G lk_X0_31 dX0_body_10 [_] rfl rfl rfl (Nat.le_of_ble_eq_true rfl) ⟨Nat.le_refl _, Nat.le_refl _⟩ hA.1 ?_
  refine k_X0_leave hA hT (by omega) (fun I1 f1 t1 => ?_)
  refine z_iload_n G dX0_body_13 rfl ?_
  refine z_iconst G (v := 1) dX0_body_14 (by decide) ?_
  refine z_iadd G dX0_body_15 ?_
  refine z_istore G dX0_body_16 (Nat.le_of_ble_eq_true rfl) rfl ?_
  refine z_iload_n G dX0_body_18 rfl ?_
  refine z_tin G 160 dX0_body_19 (by decide) (by decide) rfl (by decide) ?_
  refine z_aload_n G dX0_body_160 rfl ?_
  refine z_bipush G (v := 20) dX0_body_161 (by decide) ?_
  refine z_aload_n G dX0_body_163 rfl ?_
  refine z_iload G dX0_body_164 rfl ?_
  refine z_V G lk_X0_27 dX0_body_166 [_, _, _] rfl rfl rfl (Nat.le_of_ble_eq_true rfl) ⟨Nat.le_refl _, Nat.le_refl _⟩ hA.1 ?_
  refine kB_20 hA ht (by rw [f1.1 _ (by omega) (by omega)]; exact hsh) hs6 (by rw [f1.1 _ (by omega) (by omega)]; exact hk) hk1 hk5 (dp := dp + 1) (by simp (disch := omega) only [iN_lit, iN_add, iN_sub, iN_mul, iN_an, iN_of hδ]; exact iN_ti2 (by omega) (by omega)) t1 hap (by omega) (by simp only [List.length_append, List.length_cons, List.length_nil]; omega) (fun I2 f2 t2 => ?_)
  rw [f1.2]
  refine z_aload_n G dX0_body_169 rfl ?_
  refine z_V G lk_X0_40 dX0_body_170 [] rfl rfl rfl (Nat.le_of_ble_eq_true rfl) ⟨Nat.le_refl _, Nat.le_refl _⟩ q1 ?_
  refine k_X7_shownPage (s := s) ht (by rw [(f1.tr f2).1 _ (by omega) (by omega)]; exact hsh) hs6 ?_
  rw [(f1.tr f2).1 _ (by omega) (by omega)]
  refine z_iadd G dX0_body_173 ?_
  exact z_iret G hq dX0_body_174 (h I2 (f1.tr f2) (by simpa only [List.append_assoc, List.cons_append, List.nil_append] using t2))
set_option maxHeartbeats 1000000 in
set_option maxRecDepth 20000 in
theorem kB_22 {E : pmE} {d : Nat} {S : pmS} {I : pmI} {P : pmP} {R : Option Value → pmS → pmI → pmP → Prop} (hA : AG S P) {tt s dp kd : Nat} {δ : Int32} (ht : TabG S P tt) (hsh : (I tt 4).toInt = (s : Int)) (hs6 : s < 6) (hk : (I tt 1).toInt = (kd : Int)) (hk1 : 1 ≤ kd) (hk5 : kd ≤ 5) (hδ : δ.toInt = (dp : Int)) {l : List Int32} (hT : Tr (I 594 1) (I 595) l) (hap : tt + 1 < 594) (hdp : dp + 2 < 16) (hl : l.length + 3 ≤ 16) (h : ∀ I', FrA I I' → Tr (I' 594 1) (I' 595) (l ++ [22, 21, 20]) → R (some (.int ((I 594 2 + I (tt + 1) s) - 1000))) S I' P) : pmX E (d + 3) 0 0 yX0_body [rr E 594, .int 22, rr E tt, .int δ] S I P R := by
  refine pm_of (by decide) cd_X0_body (by decide) (by decide) (Nat.le_of_ble_eq_true rfl) ?_
  intro C G hq
  obtain ⟨g1, g2, g3⟩ := id hA
  obtain ⟨q1, q2, q3⟩ := id ht
  refine z_iload_n G dX0_body_0 rfl ?_
  refine z_bipush G (v := 16) dX0_body_1 (by decide) ?_
  refine z_icmp_lt G 8 dX0_body_3 (by decide) (fun _ => ?_) (fun c => absurd c (fun z => z (by simp (disch := omega) only [iN_lit, iN_add, iN_sub, iN_mul, iN_an, iN_le, iN_lt, iN_eq, iN_of hδ]; omega)))
  refine z_aload_n G dX0_body_8 rfl ?_
  refine z_iload_n G dX0_body_9 rfl ?_
  refine z_V G lk_X0_31 dX0_body_10 [_] rfl rfl rfl (Nat.le_of_ble_eq_true rfl) ⟨Nat.le_refl _, Nat.le_refl _⟩ hA.1 ?_
  refine k_X0_leave hA hT (by omega) (fun I1 f1 t1 => ?_)
  refine z_iload_n G dX0_body_13 rfl ?_
  refine z_iconst G (v := 1) dX0_body_14 (by decide) ?_
  refine z_iadd G dX0_body_15 ?_
  refine z_istore G dX0_body_16 (Nat.le_of_ble_eq_true rfl) rfl ?_
  refine z_iload_n G dX0_body_18 rfl ?_
  refine z_tin G 175 dX0_body_19 (by decide) (by decide) rfl (by decide) ?_
  refine z_aload_n G dX0_body_175 rfl ?_
  refine z_bipush G (v := 21) dX0_body_176 (by decide) ?_
  refine z_aload_n G dX0_body_178 rfl ?_
  refine z_iload G dX0_body_179 rfl ?_
  refine z_V G lk_X0_27 dX0_body_181 [_, _, _] rfl rfl rfl (Nat.le_of_ble_eq_true rfl) ⟨Nat.le_refl _, Nat.le_refl _⟩ hA.1 ?_
  refine kB_21 hA ht (by rw [f1.1 _ (by omega) (by omega)]; exact hsh) hs6 (by rw [f1.1 _ (by omega) (by omega)]; exact hk) hk1 hk5 (dp := dp + 1) (by simp (disch := omega) only [iN_lit, iN_add, iN_sub, iN_mul, iN_an, iN_of hδ]; exact iN_ti2 (by omega) (by omega)) t1 hap (by omega) (by simp only [List.length_append, List.length_cons, List.length_nil]; omega) (fun I2 f2 t2 => ?_)
  rw [f1.2, f1.1 _ (by omega) (by omega)]
  refine z_sipush G (v := 1000) dX0_body_184 (by decide) ?_
  refine z_isub G dX0_body_187 ?_
  exact z_iret G hq dX0_body_188 (h I2 (f1.tr f2) (by simpa only [List.append_assoc, List.cons_append, List.nil_append] using t2))
set_option maxHeartbeats 1000000 in
set_option maxRecDepth 20000 in
theorem kB_24 {E : pmE} {d : Nat} {S : pmS} {I : pmI} {P : pmP} {R : Option Value → pmS → pmI → pmP → Prop} (hA : AG S P) {tt s dp kd : Nat} {δ : Int32} (ht : TabG S P tt) (hsh : (I tt 4).toInt = (s : Int)) (hs6 : s < 6) (hk : (I tt 1).toInt = (kd : Int)) (hk1 : 1 ≤ kd) (hk5 : kd ≤ 5) (hδ : δ.toInt = (dp : Int)) {l : List Int32} (hT : Tr (I 594 1) (I 595) l) (hap : tt + 1 < 594) (hdp : dp + 2 < 16) (hl : l.length + 3 ≤ 16) (h : ∀ I', FrA I I' → Tr (I' 594 1) (I' 595) (l ++ [24, 21, 20]) → R (some (.int (2 * (I 594 2 + I (tt + 1) s)))) S I' P) : pmX E (d + 3) 0 0 yX0_body [rr E 594, .int 24, rr E tt, .int δ] S I P R := by
  refine pm_of (by decide) cd_X0_body (by decide) (by decide) (Nat.le_of_ble_eq_true rfl) ?_
  intro C G hq
  obtain ⟨g1, g2, g3⟩ := id hA
  obtain ⟨q1, q2, q3⟩ := id ht
  refine z_iload_n G dX0_body_0 rfl ?_
  refine z_bipush G (v := 16) dX0_body_1 (by decide) ?_
  refine z_icmp_lt G 8 dX0_body_3 (by decide) (fun _ => ?_) (fun c => absurd c (fun z => z (by simp (disch := omega) only [iN_lit, iN_add, iN_sub, iN_mul, iN_an, iN_le, iN_lt, iN_eq, iN_of hδ]; omega)))
  refine z_aload_n G dX0_body_8 rfl ?_
  refine z_iload_n G dX0_body_9 rfl ?_
  refine z_V G lk_X0_31 dX0_body_10 [_] rfl rfl rfl (Nat.le_of_ble_eq_true rfl) ⟨Nat.le_refl _, Nat.le_refl _⟩ hA.1 ?_
  refine k_X0_leave hA hT (by omega) (fun I1 f1 t1 => ?_)
  refine z_iload_n G dX0_body_13 rfl ?_
  refine z_iconst G (v := 1) dX0_body_14 (by decide) ?_
  refine z_iadd G dX0_body_15 ?_
  refine z_istore G dX0_body_16 (Nat.le_of_ble_eq_true rfl) rfl ?_
  refine z_iload_n G dX0_body_18 rfl ?_
  refine z_tin G 211 dX0_body_19 (by decide) (by decide) rfl (by decide) ?_
  refine z_iconst G (v := 2) dX0_body_211 (by decide) ?_
  refine z_aload_n G dX0_body_212 rfl ?_
  refine z_bipush G (v := 21) dX0_body_213 (by decide) ?_
  refine z_aload_n G dX0_body_215 rfl ?_
  refine z_iload G dX0_body_216 rfl ?_
  refine z_V G lk_X0_27 dX0_body_218 [_, _, _] rfl rfl rfl (Nat.le_of_ble_eq_true rfl) ⟨Nat.le_refl _, Nat.le_refl _⟩ hA.1 ?_
  refine kB_21 hA ht (by rw [f1.1 _ (by omega) (by omega)]; exact hsh) hs6 (by rw [f1.1 _ (by omega) (by omega)]; exact hk) hk1 hk5 (dp := dp + 1) (by simp (disch := omega) only [iN_lit, iN_add, iN_sub, iN_mul, iN_an, iN_of hδ]; exact iN_ti2 (by omega) (by omega)) t1 hap (by omega) (by simp only [List.length_append, List.length_cons, List.length_nil]; omega) (fun I2 f2 t2 => ?_)
  rw [f1.2, f1.1 _ (by omega) (by omega)]
  refine z_imul G dX0_body_221 ?_
  exact z_iret G hq dX0_body_222 (h I2 (f1.tr f2) (by simpa only [List.append_assoc, List.cons_append, List.nil_append] using t2))
set_option maxHeartbeats 1000000 in
set_option maxRecDepth 20000 in
theorem kB_13 {E : pmE} {d : Nat} {S : pmS} {I : pmI} {P : pmP} {R : Option Value → pmS → pmI → pmP → Prop} (hA : AG S P) {tt s dp kd : Nat} {δ : Int32} (ht : TabG S P tt) (hsh : (I tt 4).toInt = (s : Int)) (hs6 : s < 6) (hk : (I tt 1).toInt = (kd : Int)) (hk1 : 1 ≤ kd) (hk5 : kd ≤ 5) (hδ : δ.toInt = (dp : Int)) {l : List Int32} (hT : Tr (I 594 1) (I 595) l) (hap : tt + 1 < 594) (hdp : dp + 1 < 16) (hl : l.length + 2 ≤ 16) (h : ∀ I', FrA I I' → Tr (I' 594 1) (I' 595) (l ++ [13, 10]) → R (some (.int (I tt 3 - 100))) S I' P) : pmX E (d + 2) 0 0 yX0_body [rr E 594, .int 13, rr E tt, .int δ] S I P R := by
  refine pm_of (by decide) cd_X0_body (by decide) (by decide) (Nat.le_of_ble_eq_true rfl) ?_
  intro C G hq
  obtain ⟨g1, g2, g3⟩ := id hA
  obtain ⟨q1, q2, q3⟩ := id ht
  refine z_iload_n G dX0_body_0 rfl ?_
  refine z_bipush G (v := 16) dX0_body_1 (by decide) ?_
  refine z_icmp_lt G 8 dX0_body_3 (by decide) (fun _ => ?_) (fun c => absurd c (fun z => z (by simp (disch := omega) only [iN_lit, iN_add, iN_sub, iN_mul, iN_an, iN_le, iN_lt, iN_eq, iN_of hδ]; omega)))
  refine z_aload_n G dX0_body_8 rfl ?_
  refine z_iload_n G dX0_body_9 rfl ?_
  refine z_V G lk_X0_31 dX0_body_10 [_] rfl rfl rfl (Nat.le_of_ble_eq_true rfl) ⟨Nat.le_refl _, Nat.le_refl _⟩ hA.1 ?_
  refine k_X0_leave hA hT (by omega) (fun I1 f1 t1 => ?_)
  refine z_iload_n G dX0_body_13 rfl ?_
  refine z_iconst G (v := 1) dX0_body_14 (by decide) ?_
  refine z_iadd G dX0_body_15 ?_
  refine z_istore G dX0_body_16 (Nat.le_of_ble_eq_true rfl) rfl ?_
  refine z_iload_n G dX0_body_18 rfl ?_
  refine z_tin G 130 dX0_body_19 (by decide) (by decide) rfl (by decide) ?_
  refine z_aload_n G dX0_body_130 rfl ?_
  refine z_bipush G (v := 10) dX0_body_131 (by decide) ?_
  refine z_aload_n G dX0_body_133 rfl ?_
  refine z_iload G dX0_body_134 rfl ?_
  refine z_V G lk_X0_27 dX0_body_136 [_, _, _] rfl rfl rfl (Nat.le_of_ble_eq_true rfl) ⟨Nat.le_refl _, Nat.le_refl _⟩ hA.1 ?_
  refine kB_10 hA ht (by rw [f1.1 _ (by omega) (by omega)]; exact hsh) hs6 (by rw [f1.1 _ (by omega) (by omega)]; exact hk) hk1 hk5 (dp := dp + 1) (by simp (disch := omega) only [iN_lit, iN_add, iN_sub, iN_mul, iN_an, iN_of hδ]; exact iN_ti2 (by omega) (by omega)) t1 hap (by omega) (by simp only [List.length_append, List.length_cons, List.length_nil]; omega) (fun I2 f2 t2 => ?_)
  rw [f1.1 _ (by omega) (by omega)]
  refine z_bipush G (v := 100) dX0_body_139 (by decide) ?_
  refine z_isub G dX0_body_141 ?_
  exact z_iret G hq dX0_body_142 (h I2 (f1.tr f2) (by simpa only [List.append_assoc, List.cons_append, List.nil_append] using t2))
set_option maxHeartbeats 1000000 in
set_option maxRecDepth 20000 in
theorem kB_14 {E : pmE} {d : Nat} {S : pmS} {I : pmI} {P : pmP} {R : Option Value → pmS → pmI → pmP → Prop} (hA : AG S P) {tt s dp kd : Nat} {δ : Int32} (ht : TabG S P tt) (hsh : (I tt 4).toInt = (s : Int)) (hs6 : s < 6) (hk : (I tt 1).toInt = (kd : Int)) (hk1 : 1 ≤ kd) (hk5 : kd ≤ 5) (hδ : δ.toInt = (dp : Int)) {l : List Int32} (hT : Tr (I 594 1) (I 595) l) (hap : tt + 1 < 594) (hdp : dp + 2 < 16) (hl : l.length + 3 ≤ 16) (h : ∀ I', FrA I I' → Tr (I' 594 1) (I' 595) (l ++ [14, 13, 10]) → R (some (.int (2 * (I tt 3 - 100)))) S I' P) : pmX E (d + 3) 0 0 yX0_body [rr E 594, .int 14, rr E tt, .int δ] S I P R := by
  refine pm_of (by decide) cd_X0_body (by decide) (by decide) (Nat.le_of_ble_eq_true rfl) ?_
  intro C G hq
  obtain ⟨g1, g2, g3⟩ := id hA
  obtain ⟨q1, q2, q3⟩ := id ht
  refine z_iload_n G dX0_body_0 rfl ?_
  refine z_bipush G (v := 16) dX0_body_1 (by decide) ?_
  refine z_icmp_lt G 8 dX0_body_3 (by decide) (fun _ => ?_) (fun c => absurd c (fun z => z (by simp (disch := omega) only [iN_lit, iN_add, iN_sub, iN_mul, iN_an, iN_le, iN_lt, iN_eq, iN_of hδ]; omega)))
  refine z_aload_n G dX0_body_8 rfl ?_
  refine z_iload_n G dX0_body_9 rfl ?_
  refine z_V G lk_X0_31 dX0_body_10 [_] rfl rfl rfl (Nat.le_of_ble_eq_true rfl) ⟨Nat.le_refl _, Nat.le_refl _⟩ hA.1 ?_
  refine k_X0_leave hA hT (by omega) (fun I1 f1 t1 => ?_)
  refine z_iload_n G dX0_body_13 rfl ?_
  refine z_iconst G (v := 1) dX0_body_14 (by decide) ?_
  refine z_iadd G dX0_body_15 ?_
  refine z_istore G dX0_body_16 (Nat.le_of_ble_eq_true rfl) rfl ?_
  refine z_iload_n G dX0_body_18 rfl ?_
  refine z_tin G 143 dX0_body_19 (by decide) (by decide) rfl (by decide) ?_
  refine z_iconst G (v := 2) dX0_body_143 (by decide) ?_
  refine z_aload_n G dX0_body_144 rfl ?_
  refine z_bipush G (v := 13) dX0_body_145 (by decide) ?_
  refine z_aload_n G dX0_body_147 rfl ?_
  refine z_iload G dX0_body_148 rfl ?_
  refine z_V G lk_X0_27 dX0_body_150 [_, _, _] rfl rfl rfl (Nat.le_of_ble_eq_true rfl) ⟨Nat.le_refl _, Nat.le_refl _⟩ hA.1 ?_
  refine kB_13 hA ht (by rw [f1.1 _ (by omega) (by omega)]; exact hsh) hs6 (by rw [f1.1 _ (by omega) (by omega)]; exact hk) hk1 hk5 (dp := dp + 1) (by simp (disch := omega) only [iN_lit, iN_add, iN_sub, iN_mul, iN_an, iN_of hδ]; exact iN_ti2 (by omega) (by omega)) t1 hap (by omega) (by simp only [List.length_append, List.length_cons, List.length_nil]; omega) (fun I2 f2 t2 => ?_)
  rw [f1.1 _ (by omega) (by omega)]
  refine z_imul G dX0_body_153 ?_
  exact z_iret G hq dX0_body_154 (h I2 (f1.tr f2) (by simpa only [List.append_assoc, List.cons_append, List.nil_append] using t2))
set_option maxHeartbeats 1000000 in
set_option maxRecDepth 20000 in
theorem kB_11_1 {E : pmE} {d : Nat} {S : pmS} {I : pmI} {P : pmP} {R : Option Value → pmS → pmI → pmP → Prop} (hA : AG S P) {tt s dp kd : Nat} {δ : Int32} (ht : TabG S P tt) (hsh : (I tt 4).toInt = (s : Int)) (hs6 : s < 6) (hk : (I tt 1).toInt = (kd : Int)) (hk1 : 1 ≤ kd) (hk5 : kd ≤ 5) (hδ : δ.toInt = (dp : Int)) {l : List Int32} (hT : Tr (I 594 1) (I 595) l) (hap : tt + 1 < 594) (hkd : kd = 1) (hdp : dp + 2 < 16) (hl : l.length + 4 ≤ 16) (h : ∀ I', FrA I I' → Tr (I' 594 1) (I' 595) (l ++ [11, 10, 21, 20]) → R (some (.int (I tt 3 + (I 594 2 + I (tt + 1) s)))) S I' P) : pmX E (d + 3) 0 0 yX0_body [rr E 594, .int 11, rr E tt, .int δ] S I P R := by
  refine pm_of (by decide) cd_X0_body (by decide) (by decide) (Nat.le_of_ble_eq_true rfl) ?_
  intro C G hq
  obtain ⟨g1, g2, g3⟩ := id hA
  obtain ⟨q1, q2, q3⟩ := id ht
  refine z_iload_n G dX0_body_0 rfl ?_
  refine z_bipush G (v := 16) dX0_body_1 (by decide) ?_
  refine z_icmp_lt G 8 dX0_body_3 (by decide) (fun _ => ?_) (fun c => absurd c (fun z => z (by simp (disch := omega) only [iN_lit, iN_add, iN_sub, iN_mul, iN_an, iN_le, iN_lt, iN_eq, iN_of hδ]; omega)))
  refine z_aload_n G dX0_body_8 rfl ?_
  refine z_iload_n G dX0_body_9 rfl ?_
  refine z_V G lk_X0_31 dX0_body_10 [_] rfl rfl rfl (Nat.le_of_ble_eq_true rfl) ⟨Nat.le_refl _, Nat.le_refl _⟩ hA.1 ?_
  refine k_X0_leave hA hT (by omega) (fun I1 f1 t1 => ?_)
  refine z_iload_n G dX0_body_13 rfl ?_
  refine z_iconst G (v := 1) dX0_body_14 (by decide) ?_
  refine z_iadd G dX0_body_15 ?_
  refine z_istore G dX0_body_16 (Nat.le_of_ble_eq_true rfl) rfl ?_
  refine z_iload_n G dX0_body_18 rfl ?_
  refine z_tin G 97 dX0_body_19 (by decide) (by decide) rfl (by decide) ?_
  refine z_aload_n G dX0_body_97 rfl ?_
  refine z_bipush G (v := 10) dX0_body_98 (by decide) ?_
  refine z_aload_n G dX0_body_100 rfl ?_
  refine z_iload G dX0_body_101 rfl ?_
  refine z_V G lk_X0_27 dX0_body_103 [_, _, _] rfl rfl rfl (Nat.le_of_ble_eq_true rfl) ⟨Nat.le_refl _, Nat.le_refl _⟩ hA.1 ?_
  refine kB_10 hA ht (by rw [f1.1 _ (by omega) (by omega)]; exact hsh) hs6 (by rw [f1.1 _ (by omega) (by omega)]; exact hk) hk1 hk5 (dp := dp + 1) (by simp (disch := omega) only [iN_lit, iN_add, iN_sub, iN_mul, iN_an, iN_of hδ]; exact iN_ti2 (by omega) (by omega)) t1 hap (by omega) (by simp only [List.length_append, List.length_cons, List.length_nil]; omega) (fun I2 f2 t2 => ?_)
  rw [f1.1 _ (by omega) (by omega)]
  refine z_aload_n G dX0_body_106 rfl ?_
  refine z_aload_n G dX0_body_107 rfl ?_
  refine z_S G lk_X0_24 dX0_body_108 [_] rfl rfl rfl (Nat.le_of_ble_eq_true rfl) ⟨Nat.le_refl _, Nat.le_refl _⟩ ?_
  refine k_X0_markBody (kd := kd) ht (by rw [(f1.tr f2).1 _ (by omega) (by omega)]; exact hk) hk5 ?_
  rw [show kd = 1 from hkd]
  show pmZ _ _ _ _ (.int 21 :: _) _ _ _ _ _
  refine z_aload_n G dX0_body_111 rfl ?_
  refine z_iload G dX0_body_112 rfl ?_
  refine z_V G lk_X0_27 dX0_body_114 [_, _, _] rfl rfl rfl (Nat.le_of_ble_eq_true rfl) ⟨Nat.le_refl _, Nat.le_refl _⟩ hA.1 ?_
  refine kB_21 hA ht (by rw [(f1.tr f2).1 _ (by omega) (by omega)]; exact hsh) hs6 (by rw [(f1.tr f2).1 _ (by omega) (by omega)]; exact hk) hk1 hk5 (dp := dp + 1) (by simp (disch := omega) only [iN_lit, iN_add, iN_sub, iN_mul, iN_an, iN_of hδ]; exact iN_ti2 (by omega) (by omega)) t2 hap (by omega) (by simp only [List.length_append, List.length_cons, List.length_nil]; omega) (fun I3 f3 t3 => ?_)
  rw [(f1.tr f2).2, (f1.tr f2).1 _ (by omega) (by omega)]
  refine z_iadd G dX0_body_117 ?_
  exact z_iret G hq dX0_body_118 (h I3 ((f1.tr f2).tr f3) (by simpa only [List.append_assoc, List.cons_append, List.nil_append] using t3))
set_option maxHeartbeats 1000000 in
set_option maxRecDepth 20000 in
theorem kB_11_2 {E : pmE} {d : Nat} {S : pmS} {I : pmI} {P : pmP} {R : Option Value → pmS → pmI → pmP → Prop} (hA : AG S P) {tt s dp kd : Nat} {δ : Int32} (ht : TabG S P tt) (hsh : (I tt 4).toInt = (s : Int)) (hs6 : s < 6) (hk : (I tt 1).toInt = (kd : Int)) (hk1 : 1 ≤ kd) (hk5 : kd ≤ 5) (hδ : δ.toInt = (dp : Int)) {l : List Int32} (hT : Tr (I 594 1) (I 595) l) (hap : tt + 1 < 594) (hkd : kd = 2) (hdp : dp + 3 < 16) (hl : l.length + 5 ≤ 16) (h : ∀ I', FrA I I' → Tr (I' 594 1) (I' 595) (l ++ [11, 10, 24, 21, 20]) → R (some (.int (I tt 3 + (2 * (I 594 2 + I (tt + 1) s))))) S I' P) : pmX E (d + 4) 0 0 yX0_body [rr E 594, .int 11, rr E tt, .int δ] S I P R := by
  refine pm_of (by decide) cd_X0_body (by decide) (by decide) (Nat.le_of_ble_eq_true rfl) ?_
  intro C G hq
  obtain ⟨g1, g2, g3⟩ := id hA
  obtain ⟨q1, q2, q3⟩ := id ht
  refine z_iload_n G dX0_body_0 rfl ?_
  refine z_bipush G (v := 16) dX0_body_1 (by decide) ?_
  refine z_icmp_lt G 8 dX0_body_3 (by decide) (fun _ => ?_) (fun c => absurd c (fun z => z (by simp (disch := omega) only [iN_lit, iN_add, iN_sub, iN_mul, iN_an, iN_le, iN_lt, iN_eq, iN_of hδ]; omega)))
  refine z_aload_n G dX0_body_8 rfl ?_
  refine z_iload_n G dX0_body_9 rfl ?_
  refine z_V G lk_X0_31 dX0_body_10 [_] rfl rfl rfl (Nat.le_of_ble_eq_true rfl) ⟨Nat.le_refl _, Nat.le_refl _⟩ hA.1 ?_
  refine k_X0_leave hA hT (by omega) (fun I1 f1 t1 => ?_)
  refine z_iload_n G dX0_body_13 rfl ?_
  refine z_iconst G (v := 1) dX0_body_14 (by decide) ?_
  refine z_iadd G dX0_body_15 ?_
  refine z_istore G dX0_body_16 (Nat.le_of_ble_eq_true rfl) rfl ?_
  refine z_iload_n G dX0_body_18 rfl ?_
  refine z_tin G 97 dX0_body_19 (by decide) (by decide) rfl (by decide) ?_
  refine z_aload_n G dX0_body_97 rfl ?_
  refine z_bipush G (v := 10) dX0_body_98 (by decide) ?_
  refine z_aload_n G dX0_body_100 rfl ?_
  refine z_iload G dX0_body_101 rfl ?_
  refine z_V G lk_X0_27 dX0_body_103 [_, _, _] rfl rfl rfl (Nat.le_of_ble_eq_true rfl) ⟨Nat.le_refl _, Nat.le_refl _⟩ hA.1 ?_
  refine kB_10 hA ht (by rw [f1.1 _ (by omega) (by omega)]; exact hsh) hs6 (by rw [f1.1 _ (by omega) (by omega)]; exact hk) hk1 hk5 (dp := dp + 1) (by simp (disch := omega) only [iN_lit, iN_add, iN_sub, iN_mul, iN_an, iN_of hδ]; exact iN_ti2 (by omega) (by omega)) t1 hap (by omega) (by simp only [List.length_append, List.length_cons, List.length_nil]; omega) (fun I2 f2 t2 => ?_)
  rw [f1.1 _ (by omega) (by omega)]
  refine z_aload_n G dX0_body_106 rfl ?_
  refine z_aload_n G dX0_body_107 rfl ?_
  refine z_S G lk_X0_24 dX0_body_108 [_] rfl rfl rfl (Nat.le_of_ble_eq_true rfl) ⟨Nat.le_refl _, Nat.le_refl _⟩ ?_
  refine k_X0_markBody (kd := kd) ht (by rw [(f1.tr f2).1 _ (by omega) (by omega)]; exact hk) hk5 ?_
  rw [show kd = 2 from hkd]
  show pmZ _ _ _ _ (.int 24 :: _) _ _ _ _ _
  refine z_aload_n G dX0_body_111 rfl ?_
  refine z_iload G dX0_body_112 rfl ?_
  refine z_V G lk_X0_27 dX0_body_114 [_, _, _] rfl rfl rfl (Nat.le_of_ble_eq_true rfl) ⟨Nat.le_refl _, Nat.le_refl _⟩ hA.1 ?_
  refine kB_24 hA ht (by rw [(f1.tr f2).1 _ (by omega) (by omega)]; exact hsh) hs6 (by rw [(f1.tr f2).1 _ (by omega) (by omega)]; exact hk) hk1 hk5 (dp := dp + 1) (by simp (disch := omega) only [iN_lit, iN_add, iN_sub, iN_mul, iN_an, iN_of hδ]; exact iN_ti2 (by omega) (by omega)) t2 hap (by omega) (by simp only [List.length_append, List.length_cons, List.length_nil]; omega) (fun I3 f3 t3 => ?_)
  rw [(f1.tr f2).2, (f1.tr f2).1 _ (by omega) (by omega)]
  refine z_iadd G dX0_body_117 ?_
  exact z_iret G hq dX0_body_118 (h I3 ((f1.tr f2).tr f3) (by simpa only [List.append_assoc, List.cons_append, List.nil_append] using t3))
set_option maxHeartbeats 1000000 in
set_option maxRecDepth 20000 in
theorem kB_11_3 {E : pmE} {d : Nat} {S : pmS} {I : pmI} {P : pmP} {R : Option Value → pmS → pmI → pmP → Prop} (hA : AG S P) {tt s dp kd : Nat} {δ : Int32} (ht : TabG S P tt) (hsh : (I tt 4).toInt = (s : Int)) (hs6 : s < 6) (hk : (I tt 1).toInt = (kd : Int)) (hk1 : 1 ≤ kd) (hk5 : kd ≤ 5) (hδ : δ.toInt = (dp : Int)) {l : List Int32} (hT : Tr (I 594 1) (I 595) l) (hap : tt + 1 < 594) (hkd : kd = 3) (hdp : dp + 3 < 16) (hl : l.length + 5 ≤ 16) (h : ∀ I', FrA I I' → Tr (I' 594 1) (I' 595) (l ++ [11, 10, 22, 21, 20]) → R (some (.int (I tt 3 + ((I 594 2 + I (tt + 1) s) - 1000)))) S I' P) : pmX E (d + 4) 0 0 yX0_body [rr E 594, .int 11, rr E tt, .int δ] S I P R := by
  refine pm_of (by decide) cd_X0_body (by decide) (by decide) (Nat.le_of_ble_eq_true rfl) ?_
  intro C G hq
  obtain ⟨g1, g2, g3⟩ := id hA
  obtain ⟨q1, q2, q3⟩ := id ht
  refine z_iload_n G dX0_body_0 rfl ?_
  refine z_bipush G (v := 16) dX0_body_1 (by decide) ?_
  refine z_icmp_lt G 8 dX0_body_3 (by decide) (fun _ => ?_) (fun c => absurd c (fun z => z (by simp (disch := omega) only [iN_lit, iN_add, iN_sub, iN_mul, iN_an, iN_le, iN_lt, iN_eq, iN_of hδ]; omega)))
  refine z_aload_n G dX0_body_8 rfl ?_
  refine z_iload_n G dX0_body_9 rfl ?_
  refine z_V G lk_X0_31 dX0_body_10 [_] rfl rfl rfl (Nat.le_of_ble_eq_true rfl) ⟨Nat.le_refl _, Nat.le_refl _⟩ hA.1 ?_
  refine k_X0_leave hA hT (by omega) (fun I1 f1 t1 => ?_)
  refine z_iload_n G dX0_body_13 rfl ?_
  refine z_iconst G (v := 1) dX0_body_14 (by decide) ?_
  refine z_iadd G dX0_body_15 ?_
  refine z_istore G dX0_body_16 (Nat.le_of_ble_eq_true rfl) rfl ?_
  refine z_iload_n G dX0_body_18 rfl ?_
  refine z_tin G 97 dX0_body_19 (by decide) (by decide) rfl (by decide) ?_
  refine z_aload_n G dX0_body_97 rfl ?_
  refine z_bipush G (v := 10) dX0_body_98 (by decide) ?_
  refine z_aload_n G dX0_body_100 rfl ?_
  refine z_iload G dX0_body_101 rfl ?_
  refine z_V G lk_X0_27 dX0_body_103 [_, _, _] rfl rfl rfl (Nat.le_of_ble_eq_true rfl) ⟨Nat.le_refl _, Nat.le_refl _⟩ hA.1 ?_
  refine kB_10 hA ht (by rw [f1.1 _ (by omega) (by omega)]; exact hsh) hs6 (by rw [f1.1 _ (by omega) (by omega)]; exact hk) hk1 hk5 (dp := dp + 1) (by simp (disch := omega) only [iN_lit, iN_add, iN_sub, iN_mul, iN_an, iN_of hδ]; exact iN_ti2 (by omega) (by omega)) t1 hap (by omega) (by simp only [List.length_append, List.length_cons, List.length_nil]; omega) (fun I2 f2 t2 => ?_)
  rw [f1.1 _ (by omega) (by omega)]
  refine z_aload_n G dX0_body_106 rfl ?_
  refine z_aload_n G dX0_body_107 rfl ?_
  refine z_S G lk_X0_24 dX0_body_108 [_] rfl rfl rfl (Nat.le_of_ble_eq_true rfl) ⟨Nat.le_refl _, Nat.le_refl _⟩ ?_
  refine k_X0_markBody (kd := kd) ht (by rw [(f1.tr f2).1 _ (by omega) (by omega)]; exact hk) hk5 ?_
  rw [show kd = 3 from hkd]
  show pmZ _ _ _ _ (.int 22 :: _) _ _ _ _ _
  refine z_aload_n G dX0_body_111 rfl ?_
  refine z_iload G dX0_body_112 rfl ?_
  refine z_V G lk_X0_27 dX0_body_114 [_, _, _] rfl rfl rfl (Nat.le_of_ble_eq_true rfl) ⟨Nat.le_refl _, Nat.le_refl _⟩ hA.1 ?_
  refine kB_22 hA ht (by rw [(f1.tr f2).1 _ (by omega) (by omega)]; exact hsh) hs6 (by rw [(f1.tr f2).1 _ (by omega) (by omega)]; exact hk) hk1 hk5 (dp := dp + 1) (by simp (disch := omega) only [iN_lit, iN_add, iN_sub, iN_mul, iN_an, iN_of hδ]; exact iN_ti2 (by omega) (by omega)) t2 hap (by omega) (by simp only [List.length_append, List.length_cons, List.length_nil]; omega) (fun I3 f3 t3 => ?_)
  rw [(f1.tr f2).2, (f1.tr f2).1 _ (by omega) (by omega)]
  refine z_iadd G dX0_body_117 ?_
  exact z_iret G hq dX0_body_118 (h I3 ((f1.tr f2).tr f3) (by simpa only [List.append_assoc, List.cons_append, List.nil_append] using t3))
set_option maxHeartbeats 1000000 in
set_option maxRecDepth 20000 in
theorem kB_12 {E : pmE} {d : Nat} {S : pmS} {I : pmI} {P : pmP} {R : Option Value → pmS → pmI → pmP → Prop} (hA : AG S P) {tt s dp kd : Nat} {δ : Int32} (ht : TabG S P tt) (hsh : (I tt 4).toInt = (s : Int)) (hs6 : s < 6) (hk : (I tt 1).toInt = (kd : Int)) (hk1 : 1 ≤ kd) (hk5 : kd ≤ 5) (hδ : δ.toInt = (dp : Int)) {l : List Int32} (hT : Tr (I 594 1) (I 595) l) (hap : tt + 1 < 594) (hkd : kd = 2) (hdp : dp + 4 < 16) (hl : l.length + 6 ≤ 16) (h : ∀ I', FrA I I' → Tr (I' 594 1) (I' 595) (l ++ [12, 11, 10, 24, 21, 20]) → R (some (.int (-(I tt 3 + (2 * (I 594 2 + I (tt + 1) s)))))) S I' P) : pmX E (d + 5) 0 0 yX0_body [rr E 594, .int 12, rr E tt, .int δ] S I P R := by
  refine pm_of (by decide) cd_X0_body (by decide) (by decide) (Nat.le_of_ble_eq_true rfl) ?_
  intro C G hq
  obtain ⟨g1, g2, g3⟩ := id hA
  obtain ⟨q1, q2, q3⟩ := id ht
  refine z_iload_n G dX0_body_0 rfl ?_
  refine z_bipush G (v := 16) dX0_body_1 (by decide) ?_
  refine z_icmp_lt G 8 dX0_body_3 (by decide) (fun _ => ?_) (fun c => absurd c (fun z => z (by simp (disch := omega) only [iN_lit, iN_add, iN_sub, iN_mul, iN_an, iN_le, iN_lt, iN_eq, iN_of hδ]; omega)))
  refine z_aload_n G dX0_body_8 rfl ?_
  refine z_iload_n G dX0_body_9 rfl ?_
  refine z_V G lk_X0_31 dX0_body_10 [_] rfl rfl rfl (Nat.le_of_ble_eq_true rfl) ⟨Nat.le_refl _, Nat.le_refl _⟩ hA.1 ?_
  refine k_X0_leave hA hT (by omega) (fun I1 f1 t1 => ?_)
  refine z_iload_n G dX0_body_13 rfl ?_
  refine z_iconst G (v := 1) dX0_body_14 (by decide) ?_
  refine z_iadd G dX0_body_15 ?_
  refine z_istore G dX0_body_16 (Nat.le_of_ble_eq_true rfl) rfl ?_
  refine z_iload_n G dX0_body_18 rfl ?_
  refine z_tin G 119 dX0_body_19 (by decide) (by decide) rfl (by decide) ?_
  refine z_aload_n G dX0_body_119 rfl ?_
  refine z_bipush G (v := 11) dX0_body_120 (by decide) ?_
  refine z_aload_n G dX0_body_122 rfl ?_
  refine z_iload G dX0_body_123 rfl ?_
  refine z_V G lk_X0_27 dX0_body_125 [_, _, _] rfl rfl rfl (Nat.le_of_ble_eq_true rfl) ⟨Nat.le_refl _, Nat.le_refl _⟩ hA.1 ?_
  refine kB_11_2 hA ht (by rw [f1.1 _ (by omega) (by omega)]; exact hsh) hs6 (by rw [f1.1 _ (by omega) (by omega)]; exact hk) hk1 hk5 (dp := dp + 1) (by simp (disch := omega) only [iN_lit, iN_add, iN_sub, iN_mul, iN_an, iN_of hδ]; exact iN_ti2 (by omega) (by omega)) t1 hap hkd (by omega) (by simp only [List.length_append, List.length_cons, List.length_nil]; omega) (fun I2 f2 t2 => ?_)
  rw [f1.2, f1.1 _ (by omega) (by omega), f1.1 _ (by omega) (by omega)]
  refine z_ineg G dX0_body_128 ?_
  exact z_iret G hq dX0_body_129 (h I2 (f1.tr f2) (by simpa only [List.append_assoc, List.cons_append, List.nil_append] using t2))
set_option maxHeartbeats 1000000 in
set_option maxRecDepth 20000 in
theorem kB_23_4 {E : pmE} {d : Nat} {S : pmS} {I : pmI} {P : pmP} {R : Option Value → pmS → pmI → pmP → Prop} (hA : AG S P) {tt s dp kd : Nat} {δ : Int32} (ht : TabG S P tt) (hsh : (I tt 4).toInt = (s : Int)) (hs6 : s < 6) (hk : (I tt 1).toInt = (kd : Int)) (hk1 : 1 ≤ kd) (hk5 : kd ≤ 5) (hδ : δ.toInt = (dp : Int)) {l : List Int32} (hT : Tr (I 594 1) (I 595) l) (hap : tt + 1 < 594) (hkd : kd = 4) (hdp : dp + 2 < 16) (hl : l.length + 4 ≤ 16) (h : ∀ I', FrA I I' → Tr (I' 594 1) (I' 595) (l ++ [23, 20, 13, 10]) → R (some (.int (I 594 2 - (I tt 3 - 100)))) S I' P) : pmX E (d + 3) 0 0 yX0_body [rr E 594, .int 23, rr E tt, .int δ] S I P R := by
  refine pm_of (by decide) cd_X0_body (by decide) (by decide) (Nat.le_of_ble_eq_true rfl) ?_
  intro C G hq
  obtain ⟨g1, g2, g3⟩ := id hA
  obtain ⟨q1, q2, q3⟩ := id ht
  refine z_iload_n G dX0_body_0 rfl ?_
  refine z_bipush G (v := 16) dX0_body_1 (by decide) ?_
  refine z_icmp_lt G 8 dX0_body_3 (by decide) (fun _ => ?_) (fun c => absurd c (fun z => z (by simp (disch := omega) only [iN_lit, iN_add, iN_sub, iN_mul, iN_an, iN_le, iN_lt, iN_eq, iN_of hδ]; omega)))
  refine z_aload_n G dX0_body_8 rfl ?_
  refine z_iload_n G dX0_body_9 rfl ?_
  refine z_V G lk_X0_31 dX0_body_10 [_] rfl rfl rfl (Nat.le_of_ble_eq_true rfl) ⟨Nat.le_refl _, Nat.le_refl _⟩ hA.1 ?_
  refine k_X0_leave hA hT (by omega) (fun I1 f1 t1 => ?_)
  refine z_iload_n G dX0_body_13 rfl ?_
  refine z_iconst G (v := 1) dX0_body_14 (by decide) ?_
  refine z_iadd G dX0_body_15 ?_
  refine z_istore G dX0_body_16 (Nat.le_of_ble_eq_true rfl) rfl ?_
  refine z_iload_n G dX0_body_18 rfl ?_
  refine z_tin G 189 dX0_body_19 (by decide) (by decide) rfl (by decide) ?_
  refine z_aload_n G dX0_body_189 rfl ?_
  refine z_bipush G (v := 20) dX0_body_190 (by decide) ?_
  refine z_aload_n G dX0_body_192 rfl ?_
  refine z_iload G dX0_body_193 rfl ?_
  refine z_V G lk_X0_27 dX0_body_195 [_, _, _] rfl rfl rfl (Nat.le_of_ble_eq_true rfl) ⟨Nat.le_refl _, Nat.le_refl _⟩ hA.1 ?_
  refine kB_20 hA ht (by rw [f1.1 _ (by omega) (by omega)]; exact hsh) hs6 (by rw [f1.1 _ (by omega) (by omega)]; exact hk) hk1 hk5 (dp := dp + 1) (by simp (disch := omega) only [iN_lit, iN_add, iN_sub, iN_mul, iN_an, iN_of hδ]; exact iN_ti2 (by omega) (by omega)) t1 hap (by omega) (by simp only [List.length_append, List.length_cons, List.length_nil]; omega) (fun I2 f2 t2 => ?_)
  rw [f1.2]
  refine z_aload_n G dX0_body_198 rfl ?_
  refine z_aload_n G dX0_body_199 rfl ?_
  refine z_S G lk_X0_20 dX0_body_200 [_] rfl rfl rfl (Nat.le_of_ble_eq_true rfl) ⟨Nat.le_refl _, Nat.le_refl _⟩ ?_
  refine k_X0_sizeBody (kd := kd) ht (by rw [(f1.tr f2).1 _ (by omega) (by omega)]; exact hk) hk5 ?_
  rw [show kd = 4 from hkd]
  show pmZ _ _ _ _ (.int 13 :: _) _ _ _ _ _
  refine z_aload_n G dX0_body_203 rfl ?_
  refine z_iload G dX0_body_204 rfl ?_
  refine z_V G lk_X0_27 dX0_body_206 [_, _, _] rfl rfl rfl (Nat.le_of_ble_eq_true rfl) ⟨Nat.le_refl _, Nat.le_refl _⟩ hA.1 ?_
  refine kB_13 hA ht (by rw [(f1.tr f2).1 _ (by omega) (by omega)]; exact hsh) hs6 (by rw [(f1.tr f2).1 _ (by omega) (by omega)]; exact hk) hk1 hk5 (dp := dp + 1) (by simp (disch := omega) only [iN_lit, iN_add, iN_sub, iN_mul, iN_an, iN_of hδ]; exact iN_ti2 (by omega) (by omega)) t2 hap (by omega) (by simp only [List.length_append, List.length_cons, List.length_nil]; omega) (fun I3 f3 t3 => ?_)
  rw [(f1.tr f2).1 _ (by omega) (by omega)]
  refine z_isub G dX0_body_209 ?_
  exact z_iret G hq dX0_body_210 (h I3 ((f1.tr f2).tr f3) (by simpa only [List.append_assoc, List.cons_append, List.nil_append] using t3))
set_option maxHeartbeats 1000000 in
set_option maxRecDepth 20000 in
theorem kB_23_5 {E : pmE} {d : Nat} {S : pmS} {I : pmI} {P : pmP} {R : Option Value → pmS → pmI → pmP → Prop} (hA : AG S P) {tt s dp kd : Nat} {δ : Int32} (ht : TabG S P tt) (hsh : (I tt 4).toInt = (s : Int)) (hs6 : s < 6) (hk : (I tt 1).toInt = (kd : Int)) (hk1 : 1 ≤ kd) (hk5 : kd ≤ 5) (hδ : δ.toInt = (dp : Int)) {l : List Int32} (hT : Tr (I 594 1) (I 595) l) (hap : tt + 1 < 594) (hkd : kd = 5) (hdp : dp + 3 < 16) (hl : l.length + 5 ≤ 16) (h : ∀ I', FrA I I' → Tr (I' 594 1) (I' 595) (l ++ [23, 20, 14, 13, 10]) → R (some (.int (I 594 2 - (2 * (I tt 3 - 100))))) S I' P) : pmX E (d + 4) 0 0 yX0_body [rr E 594, .int 23, rr E tt, .int δ] S I P R := by
  refine pm_of (by decide) cd_X0_body (by decide) (by decide) (Nat.le_of_ble_eq_true rfl) ?_
  intro C G hq
  obtain ⟨g1, g2, g3⟩ := id hA
  obtain ⟨q1, q2, q3⟩ := id ht
  refine z_iload_n G dX0_body_0 rfl ?_
  refine z_bipush G (v := 16) dX0_body_1 (by decide) ?_
  refine z_icmp_lt G 8 dX0_body_3 (by decide) (fun _ => ?_) (fun c => absurd c (fun z => z (by simp (disch := omega) only [iN_lit, iN_add, iN_sub, iN_mul, iN_an, iN_le, iN_lt, iN_eq, iN_of hδ]; omega)))
  refine z_aload_n G dX0_body_8 rfl ?_
  refine z_iload_n G dX0_body_9 rfl ?_
  refine z_V G lk_X0_31 dX0_body_10 [_] rfl rfl rfl (Nat.le_of_ble_eq_true rfl) ⟨Nat.le_refl _, Nat.le_refl _⟩ hA.1 ?_
  refine k_X0_leave hA hT (by omega) (fun I1 f1 t1 => ?_)
  refine z_iload_n G dX0_body_13 rfl ?_
  refine z_iconst G (v := 1) dX0_body_14 (by decide) ?_
  refine z_iadd G dX0_body_15 ?_
  refine z_istore G dX0_body_16 (Nat.le_of_ble_eq_true rfl) rfl ?_
  refine z_iload_n G dX0_body_18 rfl ?_
  refine z_tin G 189 dX0_body_19 (by decide) (by decide) rfl (by decide) ?_
  refine z_aload_n G dX0_body_189 rfl ?_
  refine z_bipush G (v := 20) dX0_body_190 (by decide) ?_
  refine z_aload_n G dX0_body_192 rfl ?_
  refine z_iload G dX0_body_193 rfl ?_
  refine z_V G lk_X0_27 dX0_body_195 [_, _, _] rfl rfl rfl (Nat.le_of_ble_eq_true rfl) ⟨Nat.le_refl _, Nat.le_refl _⟩ hA.1 ?_
  refine kB_20 hA ht (by rw [f1.1 _ (by omega) (by omega)]; exact hsh) hs6 (by rw [f1.1 _ (by omega) (by omega)]; exact hk) hk1 hk5 (dp := dp + 1) (by simp (disch := omega) only [iN_lit, iN_add, iN_sub, iN_mul, iN_an, iN_of hδ]; exact iN_ti2 (by omega) (by omega)) t1 hap (by omega) (by simp only [List.length_append, List.length_cons, List.length_nil]; omega) (fun I2 f2 t2 => ?_)
  rw [f1.2]
  refine z_aload_n G dX0_body_198 rfl ?_
  refine z_aload_n G dX0_body_199 rfl ?_
  refine z_S G lk_X0_20 dX0_body_200 [_] rfl rfl rfl (Nat.le_of_ble_eq_true rfl) ⟨Nat.le_refl _, Nat.le_refl _⟩ ?_
  refine k_X0_sizeBody (kd := kd) ht (by rw [(f1.tr f2).1 _ (by omega) (by omega)]; exact hk) hk5 ?_
  rw [show kd = 5 from hkd]
  show pmZ _ _ _ _ (.int 14 :: _) _ _ _ _ _
  refine z_aload_n G dX0_body_203 rfl ?_
  refine z_iload G dX0_body_204 rfl ?_
  refine z_V G lk_X0_27 dX0_body_206 [_, _, _] rfl rfl rfl (Nat.le_of_ble_eq_true rfl) ⟨Nat.le_refl _, Nat.le_refl _⟩ hA.1 ?_
  refine kB_14 hA ht (by rw [(f1.tr f2).1 _ (by omega) (by omega)]; exact hsh) hs6 (by rw [(f1.tr f2).1 _ (by omega) (by omega)]; exact hk) hk1 hk5 (dp := dp + 1) (by simp (disch := omega) only [iN_lit, iN_add, iN_sub, iN_mul, iN_an, iN_of hδ]; exact iN_ti2 (by omega) (by omega)) t2 hap (by omega) (by simp only [List.length_append, List.length_cons, List.length_nil]; omega) (fun I3 f3 t3 => ?_)
  rw [(f1.tr f2).1 _ (by omega) (by omega)]
  refine z_isub G dX0_body_209 ?_
  exact z_iret G hq dX0_body_210 (h I3 ((f1.tr f2).tr f3) (by simpa only [List.append_assoc, List.cons_append, List.nil_append] using t3))
def askS (kd : Nat) (len pl pg : Int32) : List Int32 × Int32 := match kd with
  | 1 => ([11, 10, 21, 20], len + (pl + pg))
  | 2 => ([12, 11, 10, 24, 21, 20], -(len + (2 * (pl + pg))))
  | 3 => ([11, 10, 22, 21, 20], len + ((pl + pg) - 1000))
  | 4 => ([13, 10], len - 100)
  | 5 => ([14, 13, 10], 2 * (len - 100))
  | _ => ([], 0)
def askM (kd : Nat) (len pl pg : Int32) : List Int32 × Int32 := match kd with
  | 1 => ([21, 20], pl + pg)
  | 2 => ([24, 21, 20], 2 * (pl + pg))
  | 3 => ([22, 21, 20], (pl + pg) - 1000)
  | 4 => ([23, 20, 13, 10], pl - (len - 100))
  | 5 => ([23, 20, 14, 13, 10], pl - (2 * (len - 100)))
  | _ => ([], 0)
set_option maxHeartbeats 1000000 in
set_option maxRecDepth 20000 in
theorem k_X0_answerS {E : pmE} {d : Nat} {S : pmS} {I : pmI} {P : pmP} {R : Option Value → pmS → pmI → pmP → Prop} (hA : AG S P) {tt s kd : Nat} {pl what : Int32} (ht : TabG S P tt) (hap : tt + 1 < 594) (hsh : (I tt 4).toInt = (s : Int)) (hs6 : s < 6) (hk : (I tt 1).toInt = (kd : Int)) (hk1 : 1 ≤ kd) (hk5 : kd ≤ 5) (hw : what = 0) (h : ∀ I', (∀ k, k ≠ 594 → k ≠ 595 → I' k = I k) → Tr (I' 594 1) (I' 595) (askS kd (I tt 3) pl (I (tt + 1) s)).1 → R (some (.int (askS kd (I tt 3) pl (I (tt + 1) s)).2)) S I' P) : pmX E (d + 6) 0 0 yX0_answer [rr E 594, rr E tt, .int pl, .int what] S I P R := by
  refine pm_of (by decide) cd_X0_answer (by decide) (by decide) (Nat.le_of_ble_eq_true rfl) ?_
  intro C G hq
  obtain ⟨g1, g2, g3⟩ := id hA
  obtain ⟨q1, q2, q3⟩ := id ht
  have hJ : ∃ J : pmI, J = va_up I 594 (va_up (va_up (I 594) 1 0) 2 pl) := ⟨_, rfl⟩
  obtain ⟨J, eJ⟩ := hJ
  have j1 : ∀ k, k ≠ 594 → J k = I k := fun k hk => by rw [eJ]; exact va_ne' hk
  have j2 : J 594 2 = pl := by rw [eJ]; simp (disch := omega) only [va_at', va_ne', va_up_up]
  have j3 : J 594 1 = 0 := by rw [eJ]; simp (disch := omega) only [va_at', va_ne', va_up_up]
  refine z_aload_n G dX0_answer_0 rfl ?_
  refine z_iconst G (v := 0) dX0_answer_1 (by decide) ?_
  refine z_putI G fl_X0_13 ft_0_1 rfl rfl rfl dX0_answer_2 (by assumption) ?_
  refine z_aload_n G dX0_answer_5 rfl ?_
  refine z_iload_n G dX0_answer_6 rfl ?_
  refine z_putI G fl_X0_17 ft_0_2 rfl rfl rfl dX0_answer_7 (by assumption) ?_
  try simp (disch := omega) only [va_at', va_ne', va_up_up]
  rw [← eJ]
  refine z_aload_n G dX0_answer_10 rfl ?_
  refine z_iload_n G dX0_answer_11 rfl ?_
  refine z_if_ne G 22 dX0_answer_12 (by decide) (fun c => absurd c (fun z => z hw)) (fun _ => ?_)
  refine z_aload_n G dX0_answer_15 rfl ?_
  refine z_S G lk_X0_20 dX0_answer_16 [_] rfl rfl rfl (Nat.le_of_ble_eq_true rfl) ⟨Nat.le_refl _, Nat.le_refl _⟩ ?_
  refine k_X0_sizeBody (kd := kd) ht (by rw [j1 _ (by omega)]; exact hk) hk5 ?_
  refine z_goto G 26 dX0_answer_19 (by decide) ?_
  rcases (show kd = 1 ∨ kd = 2 ∨ kd = 3 ∨ kd = 4 ∨ kd = 5 by omega) with e | e | e | e | e
  · rw [show pm_st 1 kd = 11 by rw [e]; rfl]
    refine z_aload_n G dX0_answer_26 rfl ?_
    refine z_iconst G (v := 0) dX0_answer_27 (by decide) ?_
    refine z_V G lk_X0_27 dX0_answer_28 [_, _, _] rfl rfl rfl (Nat.le_of_ble_eq_true rfl) ⟨Nat.le_refl _, Nat.le_refl _⟩ hA.1 ?_
    refine kB_11_1 hA ht (s := s) (by rw [j1 _ (by omega)]; exact hsh) hs6 (by rw [j1 _ (by omega)]; exact hk) hk1 hk5 (dp := 0) rfl (l := []) (by rw [j3]; exact Tr.nil) hap e (by omega) (by simp) (fun I1 f1 t1 => ?_)
    try rw [j2]
    repeat rw [j1 _ (by omega)]
    exact z_iret G hq dX0_answer_31 (by subst e; exact h I1 (fun k a b => (f1.1 k a b).trans (j1 k a)) t1)
  · rw [show pm_st 1 kd = 12 by rw [e]; rfl]
    refine z_aload_n G dX0_answer_26 rfl ?_
    refine z_iconst G (v := 0) dX0_answer_27 (by decide) ?_
    refine z_V G lk_X0_27 dX0_answer_28 [_, _, _] rfl rfl rfl (Nat.le_of_ble_eq_true rfl) ⟨Nat.le_refl _, Nat.le_refl _⟩ hA.1 ?_
    refine kB_12 hA ht (s := s) (by rw [j1 _ (by omega)]; exact hsh) hs6 (by rw [j1 _ (by omega)]; exact hk) hk1 hk5 (dp := 0) rfl (l := []) (by rw [j3]; exact Tr.nil) hap e (by omega) (by simp) (fun I1 f1 t1 => ?_)
    try rw [j2]
    repeat rw [j1 _ (by omega)]
    exact z_iret G hq dX0_answer_31 (by subst e; exact h I1 (fun k a b => (f1.1 k a b).trans (j1 k a)) t1)
  · rw [show pm_st 1 kd = 11 by rw [e]; rfl]
    refine z_aload_n G dX0_answer_26 rfl ?_
    refine z_iconst G (v := 0) dX0_answer_27 (by decide) ?_
    refine z_V G lk_X0_27 dX0_answer_28 [_, _, _] rfl rfl rfl (Nat.le_of_ble_eq_true rfl) ⟨Nat.le_refl _, Nat.le_refl _⟩ hA.1 ?_
    refine kB_11_3 hA ht (s := s) (by rw [j1 _ (by omega)]; exact hsh) hs6 (by rw [j1 _ (by omega)]; exact hk) hk1 hk5 (dp := 0) rfl (l := []) (by rw [j3]; exact Tr.nil) hap e (by omega) (by simp) (fun I1 f1 t1 => ?_)
    try rw [j2]
    repeat rw [j1 _ (by omega)]
    exact z_iret G hq dX0_answer_31 (by subst e; exact h I1 (fun k a b => (f1.1 k a b).trans (j1 k a)) t1)
  · rw [show pm_st 1 kd = 13 by rw [e]; rfl]
    refine z_aload_n G dX0_answer_26 rfl ?_
    refine z_iconst G (v := 0) dX0_answer_27 (by decide) ?_
    refine z_V G lk_X0_27 dX0_answer_28 [_, _, _] rfl rfl rfl (Nat.le_of_ble_eq_true rfl) ⟨Nat.le_refl _, Nat.le_refl _⟩ hA.1 ?_
    refine kB_13 hA ht (s := s) (by rw [j1 _ (by omega)]; exact hsh) hs6 (by rw [j1 _ (by omega)]; exact hk) hk1 hk5 (dp := 0) rfl (l := []) (by rw [j3]; exact Tr.nil) hap (by omega) (by simp) (fun I1 f1 t1 => ?_)
    try rw [j2]
    repeat rw [j1 _ (by omega)]
    exact z_iret G hq dX0_answer_31 (by subst e; exact h I1 (fun k a b => (f1.1 k a b).trans (j1 k a)) t1)
  · rw [show pm_st 1 kd = 14 by rw [e]; rfl]
    refine z_aload_n G dX0_answer_26 rfl ?_
    refine z_iconst G (v := 0) dX0_answer_27 (by decide) ?_
    refine z_V G lk_X0_27 dX0_answer_28 [_, _, _] rfl rfl rfl (Nat.le_of_ble_eq_true rfl) ⟨Nat.le_refl _, Nat.le_refl _⟩ hA.1 ?_
    refine kB_14 hA ht (s := s) (by rw [j1 _ (by omega)]; exact hsh) hs6 (by rw [j1 _ (by omega)]; exact hk) hk1 hk5 (dp := 0) rfl (l := []) (by rw [j3]; exact Tr.nil) hap (by omega) (by simp) (fun I1 f1 t1 => ?_)
    try rw [j2]
    repeat rw [j1 _ (by omega)]
    exact z_iret G hq dX0_answer_31 (by subst e; exact h I1 (fun k a b => (f1.1 k a b).trans (j1 k a)) t1)
set_option maxHeartbeats 1000000 in
set_option maxRecDepth 20000 in
theorem k_X0_answerM {E : pmE} {d : Nat} {S : pmS} {I : pmI} {P : pmP} {R : Option Value → pmS → pmI → pmP → Prop} (hA : AG S P) {tt s kd : Nat} {pl what : Int32} (ht : TabG S P tt) (hap : tt + 1 < 594) (hsh : (I tt 4).toInt = (s : Int)) (hs6 : s < 6) (hk : (I tt 1).toInt = (kd : Int)) (hk1 : 1 ≤ kd) (hk5 : kd ≤ 5) (hw : ¬ what = 0) (h : ∀ I', (∀ k, k ≠ 594 → k ≠ 595 → I' k = I k) → Tr (I' 594 1) (I' 595) (askM kd (I tt 3) pl (I (tt + 1) s)).1 → R (some (.int (askM kd (I tt 3) pl (I (tt + 1) s)).2)) S I' P) : pmX E (d + 6) 0 0 yX0_answer [rr E 594, rr E tt, .int pl, .int what] S I P R := by
  refine pm_of (by decide) cd_X0_answer (by decide) (by decide) (Nat.le_of_ble_eq_true rfl) ?_
  intro C G hq
  obtain ⟨g1, g2, g3⟩ := id hA
  obtain ⟨q1, q2, q3⟩ := id ht
  have hJ : ∃ J : pmI, J = va_up I 594 (va_up (va_up (I 594) 1 0) 2 pl) := ⟨_, rfl⟩
  obtain ⟨J, eJ⟩ := hJ
  have j1 : ∀ k, k ≠ 594 → J k = I k := fun k hk => by rw [eJ]; exact va_ne' hk
  have j2 : J 594 2 = pl := by rw [eJ]; simp (disch := omega) only [va_at', va_ne', va_up_up]
  have j3 : J 594 1 = 0 := by rw [eJ]; simp (disch := omega) only [va_at', va_ne', va_up_up]
  refine z_aload_n G dX0_answer_0 rfl ?_
  refine z_iconst G (v := 0) dX0_answer_1 (by decide) ?_
  refine z_putI G fl_X0_13 ft_0_1 rfl rfl rfl dX0_answer_2 (by assumption) ?_
  refine z_aload_n G dX0_answer_5 rfl ?_
  refine z_iload_n G dX0_answer_6 rfl ?_
  refine z_putI G fl_X0_17 ft_0_2 rfl rfl rfl dX0_answer_7 (by assumption) ?_
  try simp (disch := omega) only [va_at', va_ne', va_up_up]
  rw [← eJ]
  refine z_aload_n G dX0_answer_10 rfl ?_
  refine z_iload_n G dX0_answer_11 rfl ?_
  refine z_if_ne G 22 dX0_answer_12 (by decide) (fun _ => ?_) (fun c => absurd c hw)
  refine z_aload_n G dX0_answer_22 rfl ?_
  refine z_S G lk_X0_24 dX0_answer_23 [_] rfl rfl rfl (Nat.le_of_ble_eq_true rfl) ⟨Nat.le_refl _, Nat.le_refl _⟩ ?_
  refine k_X0_markBody (kd := kd) ht (by rw [j1 _ (by omega)]; exact hk) hk5 ?_
  rcases (show kd = 1 ∨ kd = 2 ∨ kd = 3 ∨ kd = 4 ∨ kd = 5 by omega) with e | e | e | e | e
  · rw [show pm_st 2 kd = 21 by rw [e]; rfl]
    refine z_aload_n G dX0_answer_26 rfl ?_
    refine z_iconst G (v := 0) dX0_answer_27 (by decide) ?_
    refine z_V G lk_X0_27 dX0_answer_28 [_, _, _] rfl rfl rfl (Nat.le_of_ble_eq_true rfl) ⟨Nat.le_refl _, Nat.le_refl _⟩ hA.1 ?_
    refine kB_21 hA ht (s := s) (by rw [j1 _ (by omega)]; exact hsh) hs6 (by rw [j1 _ (by omega)]; exact hk) hk1 hk5 (dp := 0) rfl (l := []) (by rw [j3]; exact Tr.nil) hap (by omega) (by simp) (fun I1 f1 t1 => ?_)
    try rw [j2]
    repeat rw [j1 _ (by omega)]
    exact z_iret G hq dX0_answer_31 (by subst e; exact h I1 (fun k a b => (f1.1 k a b).trans (j1 k a)) t1)
  · rw [show pm_st 2 kd = 24 by rw [e]; rfl]
    refine z_aload_n G dX0_answer_26 rfl ?_
    refine z_iconst G (v := 0) dX0_answer_27 (by decide) ?_
    refine z_V G lk_X0_27 dX0_answer_28 [_, _, _] rfl rfl rfl (Nat.le_of_ble_eq_true rfl) ⟨Nat.le_refl _, Nat.le_refl _⟩ hA.1 ?_
    refine kB_24 hA ht (s := s) (by rw [j1 _ (by omega)]; exact hsh) hs6 (by rw [j1 _ (by omega)]; exact hk) hk1 hk5 (dp := 0) rfl (l := []) (by rw [j3]; exact Tr.nil) hap (by omega) (by simp) (fun I1 f1 t1 => ?_)
    try rw [j2]
    repeat rw [j1 _ (by omega)]
    exact z_iret G hq dX0_answer_31 (by subst e; exact h I1 (fun k a b => (f1.1 k a b).trans (j1 k a)) t1)
  · rw [show pm_st 2 kd = 22 by rw [e]; rfl]
    refine z_aload_n G dX0_answer_26 rfl ?_
    refine z_iconst G (v := 0) dX0_answer_27 (by decide) ?_
    refine z_V G lk_X0_27 dX0_answer_28 [_, _, _] rfl rfl rfl (Nat.le_of_ble_eq_true rfl) ⟨Nat.le_refl _, Nat.le_refl _⟩ hA.1 ?_
    refine kB_22 hA ht (s := s) (by rw [j1 _ (by omega)]; exact hsh) hs6 (by rw [j1 _ (by omega)]; exact hk) hk1 hk5 (dp := 0) rfl (l := []) (by rw [j3]; exact Tr.nil) hap (by omega) (by simp) (fun I1 f1 t1 => ?_)
    try rw [j2]
    repeat rw [j1 _ (by omega)]
    exact z_iret G hq dX0_answer_31 (by subst e; exact h I1 (fun k a b => (f1.1 k a b).trans (j1 k a)) t1)
  · rw [show pm_st 2 kd = 23 by rw [e]; rfl]
    refine z_aload_n G dX0_answer_26 rfl ?_
    refine z_iconst G (v := 0) dX0_answer_27 (by decide) ?_
    refine z_V G lk_X0_27 dX0_answer_28 [_, _, _] rfl rfl rfl (Nat.le_of_ble_eq_true rfl) ⟨Nat.le_refl _, Nat.le_refl _⟩ hA.1 ?_
    refine kB_23_4 hA ht (s := s) (by rw [j1 _ (by omega)]; exact hsh) hs6 (by rw [j1 _ (by omega)]; exact hk) hk1 hk5 (dp := 0) rfl (l := []) (by rw [j3]; exact Tr.nil) hap e (by omega) (by simp) (fun I1 f1 t1 => ?_)
    try rw [j2]
    repeat rw [j1 _ (by omega)]
    exact z_iret G hq dX0_answer_31 (by subst e; exact h I1 (fun k a b => (f1.1 k a b).trans (j1 k a)) t1)
  · rw [show pm_st 2 kd = 23 by rw [e]; rfl]
    refine z_aload_n G dX0_answer_26 rfl ?_
    refine z_iconst G (v := 0) dX0_answer_27 (by decide) ?_
    refine z_V G lk_X0_27 dX0_answer_28 [_, _, _] rfl rfl rfl (Nat.le_of_ble_eq_true rfl) ⟨Nat.le_refl _, Nat.le_refl _⟩ hA.1 ?_
    refine kB_23_5 hA ht (s := s) (by rw [j1 _ (by omega)]; exact hsh) hs6 (by rw [j1 _ (by omega)]; exact hk) hk1 hk5 (dp := 0) rfl (l := []) (by rw [j3]; exact Tr.nil) hap e (by omega) (by simp) (fun I1 f1 t1 => ?_)
    try rw [j2]
    repeat rw [j1 _ (by omega)]
    exact z_iret G hq dX0_answer_31 (by subst e; exact h I1 (fun k a b => (f1.1 k a b).trans (j1 k a)) t1)
