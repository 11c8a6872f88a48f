set_option maxHeartbeats 1000000 in
set_option maxRecDepth 20000 in
theorem k_X7_init {E : pmE} {d : Nat} {S : pmS} {I : pmI} {P : pmP} {R : Option Value → pmS → pmI → pmP → Prop} {t : Nat} (ob : OB S t 7) (hs : S.1 = t + 1) (h : ∀ S1 I1 P1, S1.1 = t + 2 → SO S S1 I I1 P P1 0 t → TabG S1 P1 t → R none S1 I1 P1) : pmX E (d + 1) 1 6 yX7_init [rr E t] S I P R := by
  refine pm_ofI (by decide) cd_X7_init (by decide) (by decide) (Nat.le_of_ble_eq_true rfl) ?_
  intro C G hq hin
  have ext : SO S S I I P P 0 t := SO.rf
  refine z_aload_n G dX7_init_0 rfl ?_
  refine z_objI G ml_X7_3 oi_m oi_c dX7_init_1 rfl (Nat.le_of_ble_eq_true rfl) ?_
  refine z_aload_n G dX7_init_4 rfl ?_
  refine z_bipush G (v := 6) dX7_init_5 (by decide) ?_
  refine z_newi G (N := 6) aw_i dX7_init_7 (by decide) (by omega) ⟨by omega, by omega⟩ (fun S1 I1 P1 h1 => ?_)
  rw [hs]
  have h1s := h1.so
  have ob := h1s.ob ob (by omega) (by omega)
  have ext := ext.tr (h1s.sub (by omega) (by omega))
  have ar1 := h1.ar hs
  have it1 := h1.it hs
  have hs : S1.1 = t + 2 := by have := h1.1; omega
  refine z_putR G hin fl_X7_9 ⟨_, rfl, rfl⟩ fr_7_0 rfl (fun _ => rfl) (fun _ => rfl) dX7_init_9 ob (fun P2 h2 => ?_)
  have ext := ext.tr (h2.so (by omega))
  have p0 := h2.2.2
  refine z_aload_n G dX7_init_12 rfl ?_
  refine z_iconst G (v := 1) dX7_init_13 (by decide) ?_
  refine z_putJ G fl_X7_15 ft_7_1 rfl rfl rfl dX7_init_14 ob (fun I3 h3 => ?_)
  have ext := ext.tr (h3.so (by omega))
  have i1 := h3.2.2
  refine z_aload_n G dX7_init_17 rfl ?_
  refine z_iconst G (v := 0) dX7_init_18 (by decide) ?_
  refine z_putJ G fl_X7_19 ft_7_2 rfl rfl rfl dX7_init_19 ob (fun I4 h4 => ?_)
  have ext := ext.tr (h4.so (by omega))
  have i1 := h4.it i1 (by omega)
  have i2 := h4.2.2
  refine z_aload_n G dX7_init_22 rfl ?_
  refine z_iconst G (v := 1) dX7_init_23 (by decide) ?_
  refine z_putJ G fl_X7_22 ft_7_3 rfl rfl rfl dX7_init_24 ob (fun I5 h5 => ?_)
  have ext := ext.tr (h5.so (by omega))
  have i1 := h5.it i1 (by omega)
  have i2 := h5.it i2 (by omega)
  have i3 := h5.2.2
  refine z_aload_n G dX7_init_27 rfl ?_
  refine z_iconst G (v := 0) dX7_init_28 (by decide) ?_
  refine z_putJ G fl_X7_25 ft_7_4 rfl rfl rfl dX7_init_29 ob (fun I6 h6 => ?_)
  have ext := ext.tr (h6.so (by omega))
  have i1 := h6.it i1 (by omega)
  have i2 := h6.it i2 (by omega)
  have i3 := h6.it i3 (by omega)
  have i4 := h6.2.2
  exact z_cs (by omega) (by omega) (z_vret G hq dX7_init_32 (h _ _ _ hs ext ⟨ob, p0, ar1⟩))
set_option maxHeartbeats 1000000 in
set_option maxRecDepth 20000 in
theorem k_X8_init {E : pmE} {d : Nat} {S : pmS} {I : pmI} {P : pmP} {R : Option Value → pmS → pmI → pmP → Prop} {t : Nat} (ob : OB S t 8) (hs : S.1 = t + 1) (h : ∀ S1 I1 P1, S1.1 = t + 3 → SO S S1 I I1 P P1 0 t → WQ S1 I1 P1 t → R none S1 I1 P1) : pmX E (d + 1) 2 32 yX8_init [rr E t] S I P R := by
  refine pm_ofI (by decide) cd_X8_init (by decide) (by decide) (Nat.le_of_ble_eq_true rfl) ?_
  intro C G hq hin
  have ext : SO S S I I P P 0 t := SO.rf
  refine z_aload_n G dX8_init_0 rfl ?_
  refine z_objI G ml_X8_3 oi_m oi_c dX8_init_1 rfl (Nat.le_of_ble_eq_true rfl) ?_
  refine z_aload_n G dX8_init_4 rfl ?_
  refine z_bipush G (v := 8) dX8_init_5 (by decide) ?_
  refine z_newi G (N := 8) aw_i dX8_init_7 (by decide) (by omega) ⟨by omega, by omega⟩ (fun S1 I1 P1 h1 => ?_)
  rw [hs]
  have h1s := h1.so
  have ob := h1s.ob ob (by omega) (by omega)
  have ext := ext.tr (h1s.sub (by omega) (by omega))
  have ar1 := h1.ar hs
  have it1 := h1.it hs
  have hs : S1.1 = t + 2 := by have := h1.1; omega
  refine z_putR G hin fl_X8_9 ⟨_, rfl, rfl⟩ fr_8_0 rfl (fun _ => rfl) (fun _ => rfl) dX8_init_9 ob (fun P2 h2 => ?_)
  have ext := ext.tr (h2.so (by omega))
  have p0 := h2.2.2
  refine z_aload_n G dX8_init_12 rfl ?_
  refine z_bipush G (v := 24) dX8_init_13 (by decide) ?_
  refine z_newi G (N := 24) aw_i dX8_init_15 (by decide) (by omega) ⟨by omega, by omega⟩ (fun S3 I3 P3 h3 => ?_)
  rw [hs]
  have h3s := h3.so
  have ob := h3s.ob ob (by omega) (by omega)
  have ext := ext.tr (h3s.sub (by omega) (by omega))
  have ar1 := h3s.ar ar1 (by omega) (by omega)
  have p0 := h3s.pf p0 (by omega) (by omega)
  have ar2 := h3.ar hs
  have it2 := h3.it hs
  have hs : S3.1 = t + 3 := by have := h3.1; omega
  refine z_putR G hin fl_X8_15 ⟨_, rfl, rfl⟩ fr_8_1 rfl (fun _ => rfl) (fun _ => rfl) dX8_init_17 ob (fun P4 h4 => ?_)
  have ext := ext.tr (h4.so (by omega))
  have p0 := h4.pf p0 (by omega)
  have p1 := h4.2.2
  refine z_aload_n G dX8_init_20 rfl ?_
  refine z_iconst G (v := 0) dX8_init_21 (by decide) ?_
  refine z_putJ G fl_X8_18 ft_8_2 rfl rfl rfl dX8_init_22 ob (fun I5 h5 => ?_)
  have ext := ext.tr (h5.so (by omega))
  have i2 := h5.2.2
  exact z_cs (by omega) (by omega) (z_vret G hq dX8_init_25 (h _ _ _ hs ext ⟨⟨ob, p0, p1, ar1, ar2⟩, i2⟩))
set_option maxHeartbeats 1000000 in
set_option maxRecDepth 20000 in
theorem k_X6_init {E : pmE} {d : Nat} {S : pmS} {I : pmI} {P : pmP} {R : Option Value → pmS → pmI → pmP → Prop} {t : Nat} (ob : OB S t 6) (hs : S.1 = t + 1) (h : ∀ S1 I1 P1, S1.1 = t + 2 → SO S S1 I I1 P P1 0 t → RQ S1 I1 P1 t → R none S1 I1 P1) : pmX E (d + 1) 1 40 yX6_init [rr E t] S I P R := by
  refine pm_ofI (by decide) cd_X6_init (by decide) (by decide) (Nat.le_of_ble_eq_true rfl) ?_
  intro C G hq hin
  have ext : SO S S I I P P 0 t := SO.rf
  refine z_aload_n G dX6_init_0 rfl ?_
  refine z_objI G ml_X6_3 oi_m oi_c dX6_init_1 rfl (Nat.le_of_ble_eq_true rfl) ?_
  refine z_aload_n G dX6_init_4 rfl ?_
  refine z_bipush G (v := 40) dX6_init_5 (by decide) ?_
  refine z_newi G (N := 40) aw_i dX6_init_7 (by decide) (by omega) ⟨by omega, by omega⟩ (fun S1 I1 P1 h1 => ?_)
  rw [hs]
  have h1s := h1.so
  have ob := h1s.ob ob (by omega) (by omega)
  have ext := ext.tr (h1s.sub (by omega) (by omega))
  have ar1 := h1.ar hs
  have it1 := h1.it hs
  have hs : S1.1 = t + 2 := by have := h1.1; omega
  refine z_putR G hin fl_X6_9 ⟨_, rfl, rfl⟩ fr_6_0 rfl (fun _ => rfl) (fun _ => rfl) dX6_init_9 ob (fun P2 h2 => ?_)
  have ext := ext.tr (h2.so (by omega))
  have p0 := h2.2.2
  refine z_aload_n G dX6_init_12 rfl ?_
  refine z_iconst G (v := 0) dX6_init_13 (by decide) ?_
  refine z_putJ G fl_X6_15 ft_6_1 rfl rfl rfl dX6_init_14 ob (fun I3 h3 => ?_)
  have ext := ext.tr (h3.so (by omega))
  have i1 := h3.2.2
  refine z_aload_n G dX6_init_17 rfl ?_
  refine z_iconst G (v := 0) dX6_init_18 (by decide) ?_
  refine z_putJ G fl_X6_19 ft_6_2 rfl rfl rfl dX6_init_19 ob (fun I4 h4 => ?_)
  have ext := ext.tr (h4.so (by omega))
  have i1 := h4.it i1 (by omega)
  have i2 := h4.2.2
  refine z_aload_n G dX6_init_22 rfl ?_
  refine z_iconst G (v := 0) dX6_init_23 (by decide) ?_
  refine z_putJ G fl_X6_23 ft_6_3 rfl rfl rfl dX6_init_24 ob (fun I5 h5 => ?_)
  have ext := ext.tr (h5.so (by omega))
  have i1 := h5.it i1 (by omega)
  have i2 := h5.it i2 (by omega)
  have i3 := h5.2.2
  exact z_cs (by omega) (by omega) (z_vret G hq dX6_init_27 (h _ _ _ hs ext ⟨ob, p0, ar1, i1, i2, i3⟩))
set_option maxHeartbeats 1000000 in
set_option maxRecDepth 20000 in
theorem k_X0_init {E : pmE} {d : Nat} {S : pmS} {I : pmI} {P : pmP} {R : Option Value → pmS → pmI → pmP → Prop} {t : Nat} (ob : OB S t 0) (hs : S.1 = t + 1) (h : ∀ S1 I1 P1, S1.1 = t + 2 → SO S S1 I I1 P P1 0 t → AQ S1 I1 P1 t → R none S1 I1 P1) : pmX E (d + 1) 1 16 yX0_init [rr E t] S I P R := by
  refine pm_ofI (by decide) cd_X0_init (by decide) (by decide) (Nat.le_of_ble_eq_true rfl) ?_
  intro C G hq hin
  have ext : SO S S I I P P 0 t := SO.rf
  refine z_aload_n G dX0_init_0 rfl ?_
  refine z_objI G ml_X0_1 oi_m oi_c dX0_init_1 rfl (Nat.le_of_ble_eq_true rfl) ?_
  refine z_aload_n G dX0_init_4 rfl ?_
  refine z_bipush G (v := 16) dX0_init_5 (by decide) ?_
  refine z_newi G (N := 16) aw_i dX0_init_7 (by decide) (by omega) ⟨by omega, by omega⟩ (fun S1 I1 P1 h1 => ?_)
  rw [hs]
  have h1s := h1.so
  have ob := h1s.ob ob (by omega) (by omega)
  have ext := ext.tr (h1s.sub (by omega) (by omega))
  have ar1 := h1.ar hs
  have it1 := h1.it hs
  have hs : S1.1 = t + 2 := by have := h1.1; omega
  refine z_putR G hin fl_X0_9 ⟨_, rfl, rfl⟩ fr_0_0 rfl (fun _ => rfl) (fun _ => rfl) dX0_init_9 ob (fun P2 h2 => ?_)
  have ext := ext.tr (h2.so (by omega))
  have p0 := h2.2.2
  refine z_aload_n G dX0_init_12 rfl ?_
  refine z_iconst G (v := 0) dX0_init_13 (by decide) ?_
  refine z_putJ G fl_X0_13 ft_0_1 rfl rfl rfl dX0_init_14 ob (fun I3 h3 => ?_)
  have ext := ext.tr (h3.so (by omega))
  have i1 := h3.2.2
  refine z_aload_n G dX0_init_17 rfl ?_
  refine z_iconst G (v := 0) dX0_init_18 (by decide) ?_
  refine z_putJ G fl_X0_17 ft_0_2 rfl rfl rfl dX0_init_19 ob (fun I4 h4 => ?_)
  have ext := ext.tr (h4.so (by omega))
  have i1 := h4.it i1 (by omega)
  have i2 := h4.2.2
  exact z_cs (by omega) (by omega) (z_vret G hq dX0_init_22 (h _ _ _ hs ext ⟨ob, p0, ar1, i1⟩))
/-- a row of references that is filled up to i -/
def FB (B : pmS → pmI → pmP → Nat → Prop) (w : Nat) (S : pmS) (I : pmI) (P : pmP) (arr c0 i : Nat) : Prop := ∀ j, j < i → P arr j = some (c0 + w * j) ∧ B S I P (c0 + w * j)
def BSO (B : pmS → pmI → pmP → Nat → Prop) (w : Nat) : Prop := ∀ (S S1 : pmS) (I I1 : pmI) (P P1 : pmP) (t : Nat), B S I P t → SO S S1 I I1 P P1 t (t + w) → B S1 I1 P1 t
section FILL
variable {B : pmS → pmI → pmP → Nat → Prop} {w : Nat} {S S1 : pmS} {I I1 : pmI} {P P1 : pmP} {arr c0 i lo hi a j q : Nat}
theorem fb_mul {w j i : Nat} (h : j < i) : w * j + w ≤ w * i := by
  have := Nat.mul_le_mul_left w (show j + 1 ≤ i from h)
  rw [Nat.mul_succ] at this
  exact this
theorem FB.z : FB B w S I P arr c0 0 := fun j hj => absurd hj (by omega)
theorem FB.so (hB : BSO B w) (f : FB B w S I P arr c0 i) (h : SO S S1 I I1 P P1 lo hi) (h1 : lo ≤ arr) (h2 : arr < hi) (h3 : lo ≤ c0) (h4 : c0 + w * i ≤ hi) : FB B w S1 I1 P1 arr c0 i := fun j hj => by
  have := fb_mul (w := w) hj
  obtain ⟨x, y⟩ := f j hj
  exact ⟨h.pf x h1 h2, hB _ _ _ _ _ _ _ y (h.sub (by omega) (by omega))⟩
theorem FB.put (hB : BSO B w) (f : FB B w S I P arr c0 i) (hb : B S I P (c0 + w * i)) (h : PutR P P1 arr i (c0 + w * i)) (ha : arr < c0) : FB B w S I P1 arr c0 (i + 1) := fun j hj => by
  by_cases e : j = i
  · subst e; exact ⟨h.2.2, hB _ _ _ _ _ _ _ hb (h.so (by omega))⟩
  · obtain ⟨x, y⟩ := f j (by omega)
    exact ⟨h.pf x (by omega), hB _ _ _ _ _ _ _ y (h.so (by omega))⟩
theorem FB.oth (hB : BSO B w) (f : FB B w S I P arr c0 i) (h : PutR P P1 a j q) (ha : a ≠ arr) (ha2 : a < c0) : FB B w S I P1 arr c0 i := fun e he => by
  obtain ⟨x, y⟩ := f e he
  exact ⟨h.pf x (by omega), hB _ _ _ _ _ _ _ y (h.so (by omega))⟩
end FILL
theorem bso_tab : BSO (fun S _ P t => TabG S P t) 2 := fun _ _ _ _ _ _ _ f h => f.so h
theorem bso_dk : BSO (fun S _ P t => DG S P t) 20 := fun _ _ _ _ _ _ _ f h => f.so h
theorem bso_row : BSO RQ 2 := fun _ _ _ _ _ _ _ f h => f.so h
theorem bso_im : BSO IQ 24 := fun _ _ _ _ _ _ _ f h => f.so h
def H1 (S : pmS) (I : pmI) (P : pmP) (t : Nat) : Prop := OB S t 1 ∧ P t 0 = some (t + 1) ∧ P t 1 = some (t + 2) ∧ P t 2 = some (t + 3) ∧ AR S (t + 1) 16 5 ∧ AR S (t + 2) 16 3 ∧ AR S (t + 3) 11 8 ∧ I t 3 = 0 ∧ I t 4 = 0 ∧ I t 5 = 0 ∧ ∀ p, p < 8 → I (t + 3) p = 0
theorem H1.so {S S1 : pmS} {I I1 : pmI} {P P1 : pmP} {t : Nat} (f : H1 S I P t) (h : SO S S1 I I1 P P1 t (t + 4)) : H1 S1 I1 P1 t := by
  obtain ⟨f1, f2, f3, f4, f5, f6, f7, f8, f9, f10, f11⟩ := f
  exact ⟨h.ob f1 (by omega) (by omega), h.pf f2 (by omega) (by omega), h.pf f3 (by omega) (by omega), h.pf f4 (by omega) (by omega), h.ar f5 (by omega) (by omega), h.ar f6 (by omega) (by omega), h.ar f7 (by omega) (by omega), h.it f8 (by omega) (by omega), h.it f9 (by omega) (by omega), h.it f10 (by omega) (by omega), fun p hp => h.it (f11 p hp) (by omega) (by omega)⟩
theorem H1.pr {S : pmS} {I : pmI} {P P1 : pmP} {t a j q : Nat} (f : H1 S I P t) (h : PutR P P1 a j q) (ha : a ≠ t) : H1 S I P1 t := by
  obtain ⟨f1, f2, f3, f4, f5⟩ := f
  exact ⟨f1, h.pf f2 (by omega), h.pf f3 (by omega), h.pf f4 (by omega), f5⟩
def H3 (S : pmS) (I : pmI) (P : pmP) (t : Nat) : Prop := OB S t 3 ∧ P t 0 = some (t + 1) ∧ AR S (t + 1) 13 25 ∧ I t 1 = 0 ∧ I t 2 = 0
theorem H3.so {S S1 : pmS} {I I1 : pmI} {P P1 : pmP} {t : Nat} (f : H3 S I P t) (h : SO S S1 I I1 P P1 t (t + 2)) : H3 S1 I1 P1 t := by
  obtain ⟨f1, f2, f3, f4, f5⟩ := f
  exact ⟨h.ob f1 (by omega) (by omega), h.pf f2 (by omega) (by omega), h.ar f3 (by omega) (by omega), h.it f4 (by omega) (by omega), h.it f5 (by omega) (by omega)⟩
theorem H3.pr {S : pmS} {I : pmI} {P P1 : pmP} {t a j q : Nat} (f : H3 S I P t) (h : PutR P P1 a j q) (ha : a ≠ t) : H3 S I P1 t := ⟨f.1, h.pf f.2.1 (by omega), f.2.2⟩
def H2 (S : pmS) (P : pmP) (t : Nat) : Prop := OB S t 2 ∧ (P t 0 = some (t + 1) ∧ P t 1 = some (t + 2) ∧ P t 2 = some (t + 3) ∧ P t 3 = some (t + 23) ∧ P t 4 = some (t + 24) ∧ P t 5 = some (t + 25) ∧ P t 6 = some (t + 27) ∧ P t 7 = some (t + 30)) ∧ AR S (t + 1) 11 4 ∧ AR S (t + 2) 11 8 ∧ DG S P (t + 3) ∧ AR S (t + 23) 11 8 ∧ AR S (t + 24) 16 5 ∧ TabG S P (t + 25) ∧ WebG S P (t + 27) ∧ AR S (t + 30) 11 12
theorem H2.so {S S1 : pmS} {I I1 : pmI} {P P1 : pmP} {t : Nat} (f : H2 S P t) (h : SO S S1 I I1 P P1 t (t + 31)) : H2 S1 P1 t := by
  obtain ⟨f1, ⟨f2, f3, f4, f5, f6, f7, f8, f9⟩, f10, f11, f12, f13, f14, f15, f16, f17⟩ := f
  exact ⟨h.ob f1 (by omega) (by omega), ⟨h.pf f2 (by omega) (by omega), h.pf f3 (by omega) (by omega), h.pf f4 (by omega) (by omega), h.pf f5 (by omega) (by omega), h.pf f6 (by omega) (by omega), h.pf f7 (by omega) (by omega), h.pf f8 (by omega) (by omega), h.pf f9 (by omega) (by omega)⟩, h.ar f10 (by omega) (by omega), h.ar f11 (by omega) (by omega), f12.so (h.sub (by omega) (by omega)), h.ar f13 (by omega) (by omega), h.ar f14 (by omega) (by omega), f15.so (h.sub (by omega) (by omega)), f16.so (h.sub (by omega) (by omega)), h.ar f17 (by omega) (by omega)⟩
theorem H2.pr {S : pmS} {P P1 : pmP} {t j q : Nat} (I : pmI) (f : H2 S P t) (h : PutR P P1 (t + 24) j q) : H2 S P1 t := by
  obtain ⟨f1, ⟨f2, f3, f4, f5, f6, f7, f8, f9⟩, f10, f11, f12, f13, f14, f15, f16, f17⟩ := f
  exact ⟨f1, ⟨h.pf f2 (by omega), h.pf f3 (by omega), h.pf f4 (by omega), h.pf f5 (by omega), h.pf f6 (by omega), h.pf f7 (by omega), h.pf f8 (by omega), h.pf f9 (by omega)⟩, f10, f11, f12.so (I := I) (I1 := I) (h.so (by omega)), f13, f14, f15.so (I := I) (I1 := I) (h.so (by omega)), f16.so (I := I) (I1 := I) (h.so (by omega)), f17⟩
set_option maxHeartbeats 1000000 in
set_option maxRecDepth 20000 in
theorem k_X1_init {E : pmE} {d : Nat} {S : pmS} {I : pmI} {P : pmP} {R : Option Value → pmS → pmI → pmP → Prop} {t : Nat} (ob : OB S t 1) (hs : S.1 = t + 1) (h : ∀ S1 I1 P1, S1.1 = t + 20 → SO S S1 I I1 P P1 0 t → DQ S1 I1 P1 t → R none S1 I1 P1) : pmX E (d + 2) 19 104 yX1_init [rr E t] S I P R := by
  refine pm_ofI (by decide) cd_X1_init (by decide) (by decide) (Nat.le_of_ble_eq_true rfl) ?_
  intro C G hq hin
  have loop2 : ∀ (r i : Nat) (u : Int32) (S1 : pmS) (I1 : pmI) (P1 : pmP), u.toInt = (i : Int) → i + r = 3 → S1.1 = t + 14 + 2 * i → SO S S1 I I1 P P1 0 t → H1 S1 I1 P1 t → FB (fun S _ P t => TabG S P t) 2 S1 I1 P1 (t + 1) (t + 4) 5 → FB (fun S _ P t => TabG S P t) 2 S1 I1 P1 (t + 2) (t + 14) i → pmZ E C 75 [some (rr E t), some (.int u)] [] S1 I1 P1 (13 + 2 * i) (71 + 11 * i) := by
    intro r
    induction r with
    | zero =>
      intro i u S1 I1 P1 hu hr hs ext hH hA hF
      obtain rfl : i = 3 := by omega
      obtain ⟨g1, g2, g3, g4, g5, g6, g7, g8⟩ := id hH
      refine z_iload_n G dX1_init_75 rfl ?_
      refine z_aload_n G dX1_init_76 rfl ?_
      refine z_getR G fl_X1_17 rfl dX1_init_77 g1 g3 ?_
      refine z_alen G 5 (v := 3) rfl (by decide) dX1_init_80 g6 (by decide) ?_
      refine z_icmp_ge G 103 dX1_init_81 (by decide) (fun _ => ?_) (fun c => absurd c (fun z => z (by simp (disch := omega) only [iN_lit, iN_add, iN_sub, iN_mul, iN_an, iN_le, iN_lt, iN_eq, iN_of hu] <;> omega)))
      refine z_cs (by omega) (by omega) (z_vret G hq dX1_init_103 (h S1 I1 P1 (by omega) ext ⟨⟨⟨g1, g2, g3, g4, g5, g6, g7⟩, fun e he => ?_, fun i hi => ⟨i, hi, ?_⟩, fun i j hi hj e => ?_, fun i hi => ⟨5 + i, by omega, by omega, ?_⟩, fun i j hi hj e => ?_⟩, g8⟩))
      · by_cases h5 : e < 5
        · have := (hA e h5).2; rw [show t + 4 + 2 * e = t + 4 + 2 * e from rfl] at this; exact this
        · have := (hF (e - 5) (by omega)).2; rw [show t + 14 + 2 * (e - 5) = t + 4 + 2 * e by omega] at this; exact this
      · exact (hA i hi).1
      · rw [(hA i hi).1, (hA j hj).1] at e; have := Option.some.inj e; omega
      · rw [(hF i hi).1, show t + 14 + 2 * i = t + 4 + 2 * (5 + i) by omega]
      · rw [(hF i hi).1, (hF j hj).1] at e; have := Option.some.inj e; omega
    | succ r ih =>
      intro i u S1 I1 P1 hu hr hs ext hH hA hF
      obtain ⟨g1, g2, g3, g4, g5, g6, g7, g8⟩ := id hH
      refine z_iload_n G dX1_init_75 rfl ?_
      refine z_aload_n G dX1_init_76 rfl ?_
      refine z_getR G fl_X1_17 rfl dX1_init_77 g1 g3 ?_
      refine z_alen G 5 (v := 3) rfl (by decide) dX1_init_80 g6 (by decide) ?_
      refine z_icmp_ge G 103 dX1_init_81 (by decide) (fun c => absurd c (by simp (disch := omega) only [iN_lit, iN_add, iN_sub, iN_mul, iN_an, iN_le, iN_lt, iN_eq, iN_of hu]; omega)) (fun _ => ?_)
      refine z_aload_n G dX1_init_84 rfl ?_
      refine z_getR G fl_X1_17 rfl dX1_init_85 g1 g3 ?_
      refine z_iload_n G dX1_init_88 rfl ?_
      refine z_newo G nk_X1_9 dX1_init_89 ⟨by omega, by omega⟩ (fun S2 I2 P2 h2 => ?_)
      rw [hs]
      have obn := h2.ob hs
      have h2s := h2.so
      have hs2 : S2.1 = t + 14 + 2 * i + 1 := by have := h2.1; omega
      refine z_dup G dX1_init_92 rfl ?_
      refine z_callIN G (List.mem_of_getElem? (i := 2) rfl) ini_7 im_7 rfl ⟨by decide +kernel, by decide +kernel, by decide +kernel⟩ dX1_init_93 rfl (Nat.le_of_ble_eq_true rfl) ⟨by omega, by omega⟩ (k_X7_init obn hs2 (fun S3 I3 P3 hs3 h3 b3 => ⟨rfl, ?_⟩))
      have s13 : SO S1 S3 I1 I3 P1 P3 0 (t + 14 + 2 * i) := (h2s.sub (by omega) (by omega)).tr h3
      have ext3 := ext.tr (s13.sub (by omega) (by omega))
      have hH3 := hH.so (s13.sub (by omega) (by omega))
      have hF3 := hF.so bso_tab s13 (by omega) (by omega) (by omega) (by omega)
      have hA3 := hA.so bso_tab s13 (by omega) (by omega) (by omega) (by omega)
      obtain ⟨g1, g2, g3, g4, g5, g6, g7, g8⟩ := id hH3
      refine z_aastR G 5 i rfl (ci := 7) rfl (by decide) (by decide) dX1_init_96 g6 hu (by omega) b3.1 (fun P4 h4 => ?_)
      refine z_iinc G (v := 1) dX1_init_97 (by decide) rfl rfl ?_
      refine z_goto G 75 dX1_init_100 (by decide) ?_
      have hA4 := hA3.oth bso_tab h4 (by omega) (by omega)
      exact z_cs (by omega) (by omega) (ih (i + 1) _ S3 I3 P4 (by simp (disch := omega) only [iN_lit, iN_add, iN_sub, iN_mul, iN_an, iN_of hu]; exact iN_ti2 (by omega) (by omega)) (by omega) (by omega) (ext3.tr (h4.so (by omega))) (hH3.pr h4 (by omega)) hA4 (hF3.put bso_tab b3 h4 (by omega)))
  have loop1 : ∀ (r i : Nat) (u : Int32) (S1 : pmS) (I1 : pmI) (P1 : pmP), u.toInt = (i : Int) → i + r = 5 → S1.1 = t + 4 + 2 * i → SO S S1 I I1 P P1 0 t → H1 S1 I1 P1 t → FB (fun S _ P t => TabG S P t) 2 S1 I1 P1 (t + 1) (t + 4) i → pmZ E C 45 [some (rr E t), some (.int u)] [] S1 I1 P1 (3 + 2 * i) (16 + 11 * i) := by
    intro r
    induction r with
    | zero =>
      intro i u S1 I1 P1 hu hr hs ext hH hF
      obtain rfl : i = 5 := by omega
      obtain ⟨g1, g2, g3, g4, g5, g6, g7, g8⟩ := id hH
      refine z_iload_n G dX1_init_45 rfl ?_
      refine z_aload_n G dX1_init_46 rfl ?_
      refine z_getR G fl_X1_11 rfl dX1_init_47 g1 g2 ?_
      refine z_alen G 5 (v := 5) rfl (by decide) dX1_init_50 g5 (by decide) ?_
      refine z_icmp_ge G 73 dX1_init_51 (by decide) (fun _ => ?_) (fun c => absurd c (fun z => z (by simp (disch := omega) only [iN_lit, iN_add, iN_sub, iN_mul, iN_an, iN_le, iN_lt, iN_eq, iN_of hu] <;> omega)))
      refine z_iconst G (v := 0) dX1_init_73 (by decide) ?_
      refine z_istore_n G dX1_init_74 (Nat.le_of_ble_eq_true rfl) rfl ?_
      exact z_cs (by omega) (by omega) (loop2 3 0 0 S1 I1 P1 rfl (by omega) (by omega) ext hH hF FB.z)
    | succ r ih =>
      intro i u S1 I1 P1 hu hr hs ext hH hF
      obtain ⟨g1, g2, g3, g4, g5, g6, g7, g8⟩ := id hH
      refine z_iload_n G dX1_init_45 rfl ?_
      refine z_aload_n G dX1_init_46 rfl ?_
      refine z_getR G fl_X1_11 rfl dX1_init_47 g1 g2 ?_
      refine z_alen G 5 (v := 5) rfl (by decide) dX1_init_50 g5 (by decide) ?_
      refine z_icmp_ge G 73 dX1_init_51 (by decide) (fun c => absurd c (by simp (disch := omega) only [iN_lit, iN_add, iN_sub, iN_mul, iN_an, iN_le, iN_lt, iN_eq, iN_of hu]; omega)) (fun _ => ?_)
      refine z_aload_n G dX1_init_54 rfl ?_
      refine z_getR G fl_X1_11 rfl dX1_init_55 g1 g2 ?_
      refine z_iload_n G dX1_init_58 rfl ?_
      refine z_newo G nk_X1_9 dX1_init_59 ⟨by omega, by omega⟩ (fun S2 I2 P2 h2 => ?_)
      rw [hs]
      have obn := h2.ob hs
      have h2s := h2.so
      have hs2 : S2.1 = t + 4 + 2 * i + 1 := by have := h2.1; omega
      refine z_dup G dX1_init_62 rfl ?_
      refine z_callIN G (List.mem_of_getElem? (i := 2) rfl) ini_7 im_7 rfl ⟨by decide +kernel, by decide +kernel, by decide +kernel⟩ dX1_init_63 rfl (Nat.le_of_ble_eq_true rfl) ⟨by omega, by omega⟩ (k_X7_init obn hs2 (fun S3 I3 P3 hs3 h3 b3 => ⟨rfl, ?_⟩))
      have s13 : SO S1 S3 I1 I3 P1 P3 0 (t + 4 + 2 * i) := (h2s.sub (by omega) (by omega)).tr h3
      have ext3 := ext.tr (s13.sub (by omega) (by omega))
      have hH3 := hH.so (s13.sub (by omega) (by omega))
      have hF3 := hF.so bso_tab s13 (by omega) (by omega) (by omega) (by omega)
      obtain ⟨g1, g2, g3, g4, g5, g6, g7, g8⟩ := id hH3
      refine z_aastR G 5 i rfl (ci := 7) rfl (by decide) (by decide) dX1_init_66 g5 hu (by omega) b3.1 (fun P4 h4 => ?_)
      refine z_iinc G (v := 1) dX1_init_67 (by decide) rfl rfl ?_
      refine z_goto G 45 dX1_init_70 (by decide) ?_
      exact z_cs (by omega) (by omega) (ih (i + 1) _ S3 I3 P4 (by simp (disch := omega) only [iN_lit, iN_add, iN_sub, iN_mul, iN_an, iN_of hu]; exact iN_ti2 (by omega) (by omega)) (by omega) (by omega) (ext3.tr (h4.so (by omega))) (hH3.pr h4 (by omega)) (hF3.put bso_tab b3 h4 (by omega)))
  have ext : SO S S I I P P 0 t := SO.rf
  refine z_aload_n G dX1_init_0 rfl ?_
  refine z_objI G ml_X1_3 oi_m oi_c dX1_init_1 rfl (Nat.le_of_ble_eq_true rfl) ?_
  refine z_aload_n G dX1_init_4 rfl ?_
  refine z_iconst G (v := 5) dX1_init_5 (by decide) ?_
  refine z_newq G (N := 5) (c := 16) 5 rfl (by decide) cw_X1_9 ao_7 dX1_init_6 (by decide) (by omega) ⟨by omega, by omega⟩ (fun S1 I1 P1 h1 => ?_)
  rw [hs]
  have h1s := h1.so
  have ob := h1s.ob ob (by omega) (by omega)
  have ext := ext.tr (h1s.sub (by omega) (by omega))
  have ar1 := h1.ar hs
  have it1 := h1.it hs
  have hs : S1.1 = t + 2 := by have := h1.1; omega
  refine z_putR G hin fl_X1_11 ⟨_, rfl, rfl⟩ fr_1_0 rfl (fun _ => rfl) (fun _ => rfl) dX1_init_9 ob (fun P2 h2 => ?_)
  have ext := ext.tr (h2.so (by omega))
  have p0 := h2.2.2
  refine z_aload_n G dX1_init_12 rfl ?_
  refine z_iconst G (v := 3) dX1_init_13 (by decide) ?_
  refine z_newq G (N := 3) (c := 16) 5 rfl (by decide) cw_X1_9 ao_7 dX1_init_14 (by decide) (by omega) ⟨by omega, by omega⟩ (fun S3 I3 P3 h3 => ?_)
  rw [hs]
  have h3s := h3.so
  have ob := h3s.ob ob (by omega) (by omega)
  have ext := ext.tr (h3s.sub (by omega) (by omega))
  have ar1 := h3s.ar ar1 (by omega) (by omega)
  have p0 := h3s.pf p0 (by omega) (by omega)
  have ar2 := h3.ar hs
  have it2 := h3.it hs
  have hs : S3.1 = t + 3 := by have := h3.1; omega
  refine z_putR G hin fl_X1_17 ⟨_, rfl, rfl⟩ fr_1_1 rfl (fun _ => rfl) (fun _ => rfl) dX1_init_17 ob (fun P4 h4 => ?_)
  have ext := ext.tr (h4.so (by omega))
  have p0 := h4.pf p0 (by omega)
  have p1 := h4.2.2
  refine z_aload_n G dX1_init_20 rfl ?_
  refine z_bipush G (v := 8) dX1_init_21 (by decide) ?_
  refine z_newi G (N := 8) aw_i dX1_init_23 (by decide) (by omega) ⟨by omega, by omega⟩ (fun S5 I5 P5 h5 => ?_)
  rw [hs]
  have h5s := h5.so
  have ob := h5s.ob ob (by omega) (by omega)
  have ext := ext.tr (h5s.sub (by omega) (by omega))
  have ar1 := h5s.ar ar1 (by omega) (by omega)
  have p0 := h5s.pf p0 (by omega) (by omega)
  have ar2 := h5s.ar ar2 (by omega) (by omega)
  have p1 := h5s.pf p1 (by omega) (by omega)
  have ar3 := h5.ar hs
  have it3 := h5.it hs
  have hs : S5.1 = t + 4 := by have := h5.1; omega
  have vz : ∀ p, p < 8 → I5 (t + 3) p = 0 := fun p _ => by rw [it3]
  refine z_putR G hin fl_X1_20 ⟨_, rfl, rfl⟩ fr_1_2 rfl (fun _ => rfl) (fun _ => rfl) dX1_init_25 ob (fun P6 h6 => ?_)
  have ext := ext.tr (h6.so (by omega))
  have p0 := h6.pf p0 (by omega)
  have p1 := h6.pf p1 (by omega)
  have p2 := h6.2.2
  refine z_aload_n G dX1_init_28 rfl ?_
  refine z_iconst G (v := 0) dX1_init_29 (by decide) ?_
  refine z_putJ G fl_X1_24 ft_1_3 rfl rfl rfl dX1_init_30 ob (fun I7 h7 => ?_)
  have ext := ext.tr (h7.so (by omega))
  have i3 := h7.2.2
  refine z_aload_n G dX1_init_33 rfl ?_
  refine z_iconst G (v := 0) dX1_init_34 (by decide) ?_
  refine z_putJ G fl_X1_28 ft_1_4 rfl rfl rfl dX1_init_35 ob (fun I8 h8 => ?_)
  have ext := ext.tr (h8.so (by omega))
  have i3 := h8.it i3 (by omega)
  have i4 := h8.2.2
  refine z_aload_n G dX1_init_38 rfl ?_
  refine z_iconst G (v := 0) dX1_init_39 (by decide) ?_
  refine z_putJ G fl_X1_31 ft_1_5 rfl rfl rfl dX1_init_40 ob (fun I9 h9 => ?_)
  have ext := ext.tr (h9.so (by omega))
  have i3 := h9.it i3 (by omega)
  have i4 := h9.it i4 (by omega)
  have i5 := h9.2.2
  refine z_iconst G (v := 0) dX1_init_43 (by decide) ?_
  refine z_istore_n G dX1_init_44 (Nat.le_of_ble_eq_true rfl) rfl ?_
  have vz9 : ∀ p, p < 8 → I9 (t + 3) p = 0 := fun p hp => h9.it (h8.it (h7.it (vz p hp) (by omega)) (by omega)) (by omega)
  exact z_cs (by omega) (by omega) (loop1 5 0 0 _ _ _ rfl (by omega) (by omega) ext ⟨ob, p0, p1, p2, ar1, ar2, ar3, i3, i4, i5, vz9⟩ FB.z)
set_option maxHeartbeats 1000000 in
set_option maxRecDepth 20000 in
theorem k_X5_init {E : pmE} {d : Nat} {S : pmS} {I : pmI} {P : pmP} {R : Option Value → pmS → pmI → pmP → Prop} {t : Nat} (ob : OB S t 5) (hs : S.1 = t + 1) (h : ∀ S1 I1 P1, S1.1 = t + 25 → SO S S1 I I1 P P1 0 t → RdQ S1 I1 P1 t → R none S1 I1 P1) : pmX E (d + 3) 24 225 yX5_init [rr E t] S I P R := by
  refine pm_ofI (by decide) cd_X5_init (by decide) (by decide) (Nat.le_of_ble_eq_true rfl) ?_
  intro C G hq hin
  have ext : SO S S I I P P 0 t := SO.rf
  refine z_aload_n G dX5_init_0 rfl ?_
  refine z_objI G ml_X5_3 oi_m oi_c dX5_init_1 rfl (Nat.le_of_ble_eq_true rfl) ?_
  refine z_aload_n G dX5_init_4 rfl ?_
  refine z_bipush G (v := 80) dX5_init_5 (by decide) ?_
  refine z_newi G (N := 80) aw_i dX5_init_7 (by decide) (by omega) ⟨by omega, by omega⟩ (fun S1 I1 P1 h1 => ?_)
  rw [hs]
  have h1s := h1.so
  have ob := h1s.ob ob (by omega) (by omega)
  have ext := ext.tr (h1s.sub (by omega) (by omega))
  have ar1 := h1.ar hs
  have it1 := h1.it hs
  have hs : S1.1 = t + 2 := by have := h1.1; omega
  refine z_putR G hin fl_X5_9 ⟨_, rfl, rfl⟩ fr_5_0 rfl (fun _ => rfl) (fun _ => rfl) dX5_init_9 ob (fun P2 h2 => ?_)
  have ext := ext.tr (h2.so (by omega))
  have p0 := h2.2.2
  refine z_aload_n G dX5_init_12 rfl ?_
  refine z_newo G nk_X5_15 dX5_init_13 ⟨by omega, by omega⟩ (fun S3 I3 P3 h3 => ?_)
  rw [hs]
  have h3s := h3.so
  have ob := h3s.ob ob (by omega) (by omega)
  have ext := ext.tr (h3s.sub (by omega) (by omega))
  have ar1 := h3s.ar ar1 (by omega) (by omega)
  have p0 := h3s.pf p0 (by omega) (by omega)
  have obn := h3.ob hs
  have hs : S3.1 = t + 2 + 1 := by have := h3.1; omega
  refine z_dup G dX5_init_16 rfl ?_
  refine z_callIN G (List.mem_of_getElem? (i := 1) rfl) ini_8 im_8 rfl ⟨by decide +kernel, by decide +kernel, by decide +kernel⟩ dX5_init_17 rfl (Nat.le_of_ble_eq_true rfl) ⟨by omega, by omega⟩ (k_X8_init obn hs (fun S4 I4 P4 hs h4 b2 => ⟨rfl, ?_⟩))
  have ob := h4.ob ob (by omega) (by omega)
  have ext := ext.tr (h4.sub (by omega) (by omega))
  have ar1 := h4.ar ar1 (by omega) (by omega)
  have p0 := h4.pf p0 (by omega) (by omega)
  have hs : S4.1 = t + 5 := by omega
  refine z_putR G hin fl_X5_18 ⟨_, rfl, rfl⟩ fr_5_1 rfl (fun _ => rfl) (fun _ => rfl) dX5_init_20 ob (fun P5 h5 => ?_)
  have ext := ext.tr (h5.so (by omega))
  have p0 := h5.pf p0 (by omega)
  have b2 := b2.so (h5.so (I := I4) (by omega))
  have p1 := h5.2.2
  refine z_aload_n G dX5_init_23 rfl ?_
  refine z_newo G nk_X5_22 dX5_init_24 ⟨by omega, by omega⟩ (fun S6 I6 P6 h6 => ?_)
  rw [hs]
  have h6s := h6.so
  have ob := h6s.ob ob (by omega) (by omega)
  have ext := ext.tr (h6s.sub (by omega) (by omega))
  have ar1 := h6s.ar ar1 (by omega) (by omega)
  have p0 := h6s.pf p0 (by omega) (by omega)
  have b2 := b2.so (h6s.sub (by omega) (by omega))
  have p1 := h6s.pf p1 (by omega) (by omega)
  have obn := h6.ob hs
  have hs : S6.1 = t + 5 + 1 := by have := h6.1; omega
  refine z_dup G dX5_init_27 rfl ?_
  refine z_callI G lk_X5_24 dX5_init_28 (As := []) rfl rfl rfl (Nat.le_of_ble_eq_true rfl) ⟨by omega, by omega⟩ (k_X1_init obn hs (fun S7 I7 P7 hs h7 b5 => ⟨rfl, ?_⟩))
  have ob := h7.ob ob (by omega) (by omega)
  have ext := ext.tr (h7.sub (by omega) (by omega))
  have ar1 := h7.ar ar1 (by omega) (by omega)
  have p0 := h7.pf p0 (by omega) (by omega)
  have b2 := b2.so (h7.sub (by omega) (by omega))
  have p1 := h7.pf p1 (by omega) (by omega)
  have hs : S7.1 = t + 25 := by omega
  refine z_putR G hin fl_X5_25 ⟨_, rfl, rfl⟩ fr_5_2 rfl (fun _ => rfl) (fun _ => rfl) dX5_init_31 ob (fun P8 h8 => ?_)
  have ext := ext.tr (h8.so (by omega))
  have p0 := h8.pf p0 (by omega)
  have b2 := b2.so (h8.so (I := I7) (by omega))
  have p1 := h8.pf p1 (by omega)
  have b5 := b5.so (h8.so (I := I7) (by omega))
  have p2 := h8.2.2
  refine z_aload_n G dX5_init_34 rfl ?_
  refine z_iconst G (v := 0) dX5_init_35 (by decide) ?_
  refine z_putJ G fl_X5_29 ft_5_3 rfl rfl rfl dX5_init_36 ob (fun I9 h9 => ?_)
  have ext := ext.tr (h9.so (by omega))
  have b2 := b2.so (h9.so (by omega))
  have b5 := b5.so (h9.so (by omega))
  have i3 := h9.2.2
  refine z_aload_n G dX5_init_39 rfl ?_
  refine z_iconst G (v := 0) dX5_init_40 (by decide) ?_
  refine z_putJ G fl_X5_33 ft_5_4 rfl rfl rfl dX5_init_41 ob (fun I10 h10 => ?_)
  have ext := ext.tr (h10.so (by omega))
  have b2 := b2.so (h10.so (by omega))
  have b5 := b5.so (h10.so (by omega))
  have i3 := h10.it i3 (by omega)
  have i4 := h10.2.2
  refine z_aload_n G dX5_init_44 rfl ?_
  refine z_iconst G (v := 0) dX5_init_45 (by decide) ?_
  refine z_putJ G fl_X5_36 ft_5_5 rfl rfl rfl dX5_init_46 ob (fun I11 h11 => ?_)
  have ext := ext.tr (h11.so (by omega))
  have b2 := b2.so (h11.so (by omega))
  have b5 := b5.so (h11.so (by omega))
  have i3 := h11.it i3 (by omega)
  have i4 := h11.it i4 (by omega)
  have i5 := h11.2.2
  refine z_aload_n G dX5_init_49 rfl ?_
  refine z_iconst G (v := 0) dX5_init_50 (by decide) ?_
  refine z_putJ G fl_X5_39 ft_5_6 rfl rfl rfl dX5_init_51 ob (fun I12 h12 => ?_)
  have ext := ext.tr (h12.so (by omega))
  have b2 := b2.so (h12.so (by omega))
  have b5 := b5.so (h12.so (by omega))
  have i3 := h12.it i3 (by omega)
  have i4 := h12.it i4 (by omega)
  have i5 := h12.it i5 (by omega)
  have i6 := h12.2.2
  refine z_aload_n G dX5_init_54 rfl ?_
  refine z_iconst G (v := -1) dX5_init_55 (by decide) ?_
  refine z_putJ G fl_X5_42 ft_5_7 rfl rfl rfl dX5_init_56 ob (fun I13 h13 => ?_)
  have ext := ext.tr (h13.so (by omega))
  have b2 := b2.so (h13.so (by omega))
  have b5 := b5.so (h13.so (by omega))
  have i3 := h13.it i3 (by omega)
  have i4 := h13.it i4 (by omega)
  have i5 := h13.it i5 (by omega)
  have i6 := h13.it i6 (by omega)
  have i7 := h13.2.2
  refine z_aload_n G dX5_init_59 rfl ?_
  refine z_iconst G (v := 0) dX5_init_60 (by decide) ?_
  refine z_putJ G fl_X5_45 ft_5_8 rfl rfl rfl dX5_init_61 ob (fun I14 h14 => ?_)
  have ext := ext.tr (h14.so (by omega))
  have b2 := b2.so (h14.so (by omega))
  have b5 := b5.so (h14.so (by omega))
  have i3 := h14.it i3 (by omega)
  have i4 := h14.it i4 (by omega)
  have i5 := h14.it i5 (by omega)
  have i6 := h14.it i6 (by omega)
  have i7 := h14.it i7 (by omega)
  have i8 := h14.2.2
  refine z_aload_n G dX5_init_64 rfl ?_
  refine z_iconst G (v := 0) dX5_init_65 (by decide) ?_
  refine z_putJ G fl_X5_48 ft_5_9 rfl rfl rfl dX5_init_66 ob (fun I15 h15 => ?_)
  have ext := ext.tr (h15.so (by omega))
  have b2 := b2.so (h15.so (by omega))
  have b5 := b5.so (h15.so (by omega))
  have i3 := h15.it i3 (by omega)
  have i4 := h15.it i4 (by omega)
  have i5 := h15.it i5 (by omega)
  have i6 := h15.it i6 (by omega)
  have i7 := h15.it i7 (by omega)
  have i8 := h15.it i8 (by omega)
  have i9 := h15.2.2
  refine z_aload_n G dX5_init_69 rfl ?_
  refine z_iconst G (v := 0) dX5_init_70 (by decide) ?_
  refine z_putJ G fl_X5_51 ft_5_10 rfl rfl rfl dX5_init_71 ob (fun I16 h16 => ?_)
  have ext := ext.tr (h16.so (by omega))
  have b2 := b2.so (h16.so (by omega))
  have b5 := b5.so (h16.so (by omega))
  have i3 := h16.it i3 (by omega)
  have i4 := h16.it i4 (by omega)
  have i5 := h16.it i5 (by omega)
  have i6 := h16.it i6 (by omega)
  have i7 := h16.it i7 (by omega)
  have i8 := h16.it i8 (by omega)
  have i9 := h16.it i9 (by omega)
  have i10 := h16.2.2
  exact z_cs (by omega) (by omega) (z_vret G hq dX5_init_74 (h _ _ _ hs ext ⟨ob, p0, p1, p2, ar1, b2.1, b5.1, i3, i4⟩))
set_option maxHeartbeats 1000000 in
set_option maxRecDepth 20000 in
theorem k_X4_init {E : pmE} {d : Nat} {S : pmS} {I : pmI} {P : pmP} {R : Option Value → pmS → pmI → pmP → Prop} {t : Nat} (ob : OB S t 4) (hs : S.1 = t + 1) (h : ∀ S1 I1 P1, S1.1 = t + 24 → SO S S1 I I1 P P1 0 t → IQ S1 I1 P1 t → R none S1 I1 P1) : pmX E (d + 3) 23 145 yX4_init [rr E t] S I P R := by
  refine pm_ofI (by decide) cd_X4_init (by decide) (by decide) (Nat.le_of_ble_eq_true rfl) ?_
  intro C G hq hin
  have ext : SO S S I I P P 0 t := SO.rf
  refine z_aload_n G dX4_init_0 rfl ?_
  refine z_objI G ml_X4_1 oi_m oi_c dX4_init_1 rfl (Nat.le_of_ble_eq_true rfl) ?_
  refine z_aload_n G dX4_init_4 rfl ?_
  refine z_newo G nk_X4_7 dX4_init_5 ⟨by omega, by omega⟩ (fun S1 I1 P1 h1 => ?_)
  rw [hs]
  have h1s := h1.so
  have ob := h1s.ob ob (by omega) (by omega)
  have ext := ext.tr (h1s.sub (by omega) (by omega))
  have obn := h1.ob hs
  have hs : S1.1 = t + 1 + 1 := by have := h1.1; omega
  refine z_dup G dX4_init_8 rfl ?_
  refine z_callIN G (List.mem_of_getElem? (i := 9) rfl) ini_8 im_8 rfl ⟨by decide +kernel, by decide +kernel, by decide +kernel⟩ dX4_init_9 rfl (Nat.le_of_ble_eq_true rfl) ⟨by omega, by omega⟩ (k_X8_init obn hs (fun S2 I2 P2 hs h2 b1 => ⟨rfl, ?_⟩))
  have ob := h2.ob ob (by omega) (by omega)
  have ext := ext.tr (h2.sub (by omega) (by omega))
  have hs : S2.1 = t + 4 := by omega
  refine z_putR G hin fl_X4_10 ⟨_, rfl, rfl⟩ fr_4_0 rfl (fun _ => rfl) (fun _ => rfl) dX4_init_12 ob (fun P3 h3 => ?_)
  have ext := ext.tr (h3.so (by omega))
  have b1 := b1.so (h3.so (I := I2) (by omega))
  have p0 := h3.2.2
  refine z_aload_n G dX4_init_15 rfl ?_
  refine z_newo G nk_X4_16 dX4_init_16 ⟨by omega, by omega⟩ (fun S4 I4 P4 h4 => ?_)
  rw [hs]
  have h4s := h4.so
  have ob := h4s.ob ob (by omega) (by omega)
  have ext := ext.tr (h4s.sub (by omega) (by omega))
  have b1 := b1.so (h4s.sub (by omega) (by omega))
  have p0 := h4s.pf p0 (by omega) (by omega)
  have obn := h4.ob hs
  have hs : S4.1 = t + 4 + 1 := by have := h4.1; omega
  refine z_dup G dX4_init_19 rfl ?_
  refine z_callI G lk_X4_18 dX4_init_20 (As := []) rfl rfl rfl (Nat.le_of_ble_eq_true rfl) ⟨by omega, by omega⟩ (k_X1_init obn hs (fun S5 I5 P5 hs h5 b4 => ⟨rfl, ?_⟩))
  have ob := h5.ob ob (by omega) (by omega)
  have ext := ext.tr (h5.sub (by omega) (by omega))
  have b1 := b1.so (h5.sub (by omega) (by omega))
  have p0 := h5.pf p0 (by omega) (by omega)
  have hs : S5.1 = t + 24 := by omega
  refine z_putR G hin fl_X4_19 ⟨_, rfl, rfl⟩ fr_4_1 rfl (fun _ => rfl) (fun _ => rfl) dX4_init_23 ob (fun P6 h6 => ?_)
  have ext := ext.tr (h6.so (by omega))
  have b1 := b1.so (h6.so (I := I5) (by omega))
  have p0 := h6.pf p0 (by omega)
  have b4 := b4.so (h6.so (I := I5) (by omega))
  have p1 := h6.2.2
  refine z_aload_n G dX4_init_26 rfl ?_
  refine z_iconst G (v := 0) dX4_init_27 (by decide) ?_
  refine z_putJ G fl_X4_23 ft_4_2 rfl rfl rfl dX4_init_28 ob (fun I7 h7 => ?_)
  have ext := ext.tr (h7.so (by omega))
  have b1 := b1.so (h7.so (by omega))
  have b4 := b4.so (h7.so (by omega))
  have i2 := h7.2.2
  exact z_cs (by omega) (by omega) (z_vret G hq dX4_init_31 (h _ _ _ hs ext ⟨ob, p0, p1, b1.1, b4.1, i2⟩))
set_option maxHeartbeats 1000000 in
set_option maxRecDepth 20000 in
theorem k_X3_init {E : pmE} {d : Nat} {S : pmS} {I : pmI} {P : pmP} {R : Option Value → pmS → pmI → pmP → Prop} {t : Nat} (ob : OB S t 3) (hs : S.1 = t + 1) (h : ∀ S1 I1 P1, S1.1 = t + 502 → SO S S1 I I1 P P1 0 t → HQ S1 I1 P1 t → R none S1 I1 P1) : pmX E (d + 3) 501 2775 yX3_init [rr E t] S I P R := by
  refine pm_ofI (by decide) cd_X3_init (by decide) (by decide) (Nat.le_of_ble_eq_true rfl) ?_
  intro C G hq hin
  have loop1 : ∀ (r i : Nat) (u : Int32) (S1 : pmS) (I1 : pmI) (P1 : pmP), u.toInt = (i : Int) → i + r = 25 → S1.1 = t + 2 + 20 * i → SO S S1 I I1 P P1 0 t → H3 S1 I1 P1 t → FB (fun S _ P t => DG S P t) 20 S1 I1 P1 (t + 1) (t + 2) i → pmZ E C 25 [some (rr E t), some (.int u)] [] S1 I1 P1 (1 + 20 * i) (25 + 110 * i) := by
    intro r
    induction r with
    | zero =>
      intro i u S1 I1 P1 hu hr hs ext hH hF
      obtain rfl : i = 25 := by omega
      obtain ⟨g1, g2, g3, g4, g5⟩ := id hH
      refine z_iload_n G dX3_init_25 rfl ?_
      refine z_aload_n G dX3_init_26 rfl ?_
      refine z_getR G fl_X3_13 rfl dX3_init_27 g1 g2 ?_
      refine z_alen G 2 (v := 25) rfl (by decide) dX3_init_30 g3 (by decide) ?_
      refine z_icmp_ge G 53 dX3_init_31 (by decide) (fun _ => ?_) (fun c => absurd c (fun z => z (by simp (disch := omega) only [iN_lit, iN_add, iN_sub, iN_mul, iN_an, iN_le, iN_lt, iN_eq, iN_of hu] <;> omega)))
      exact z_cs (by omega) (by omega) (z_vret G hq dX3_init_53 (h S1 I1 P1 (by omega) ext ⟨g1, g2, g3, hF, g4, g5⟩))
    | succ r ih =>
      intro i u S1 I1 P1 hu hr hs ext hH hF
      obtain ⟨g1, g2, g3, g4, g5⟩ := id hH
      refine z_iload_n G dX3_init_25 rfl ?_
      refine z_aload_n G dX3_init_26 rfl ?_
      refine z_getR G fl_X3_13 rfl dX3_init_27 g1 g2 ?_
      refine z_alen G 2 (v := 25) rfl (by decide) dX3_init_30 g3 (by decide) ?_
      refine z_icmp_ge G 53 dX3_init_31 (by decide) (fun c => absurd c (by simp (disch := omega) only [iN_lit, iN_add, iN_sub, iN_mul, iN_an, iN_le, iN_lt, iN_eq, iN_of hu]; omega)) (fun _ => ?_)
      refine z_aload_n G dX3_init_34 rfl ?_
      refine z_getR G fl_X3_13 rfl dX3_init_35 g1 g2 ?_
      refine z_iload_n G dX3_init_38 rfl ?_
      refine z_newo G nk_X3_11 dX3_init_39 ⟨by omega, by omega⟩ (fun S2 I2 P2 h2 => ?_)
      rw [hs]
      have obn := h2.ob hs
      have h2s := h2.so
      have hs2 : S2.1 = t + 2 + 20 * i + 1 := by have := h2.1; omega
      refine z_dup G dX3_init_42 rfl ?_
      refine z_callI G lk_X3_24 dX3_init_43 (As := []) rfl rfl rfl (Nat.le_of_ble_eq_true rfl) ⟨by omega, by omega⟩ (k_X1_init obn hs2 (fun S3 I3 P3 hs3 h3 b3 => ⟨rfl, ?_⟩))
      have s13 : SO S1 S3 I1 I3 P1 P3 0 (t + 2 + 20 * i) := (h2s.sub (by omega) (by omega)).tr h3
      have ext3 := ext.tr (s13.sub (by omega) (by omega))
      have hH3 := hH.so (s13.sub (by omega) (by omega))
      have hF3 := hF.so bso_dk s13 (by omega) (by omega) (by omega) (by omega)
      obtain ⟨g1, g2, g3, g4, g5⟩ := id hH3
      refine z_aastR G 2 i rfl (ci := 1) rfl (by decide) (by decide) dX3_init_46 g3 hu (by omega) b3.1.1.1 (fun P4 h4 => ?_)
      refine z_iinc G (v := 1) dX3_init_47 (by decide) rfl rfl ?_
      refine z_goto G 25 dX3_init_50 (by decide) ?_
      exact z_cs (by omega) (by omega) (ih (i + 1) _ S3 I3 P4 (by simp (disch := omega) only [iN_lit, iN_add, iN_sub, iN_mul, iN_an, iN_of hu]; exact iN_ti2 (by omega) (by omega)) (by omega) (by omega) (ext3.tr (h4.so (by omega))) (hH3.pr h4 (by omega)) (hF3.put bso_dk b3.1 h4 (by omega)))
  have ext : SO S S I I P P 0 t := SO.rf
  refine z_aload_n G dX3_init_0 rfl ?_
  refine z_objI G ml_X3_3 oi_m oi_c dX3_init_1 rfl (Nat.le_of_ble_eq_true rfl) ?_
  refine z_aload_n G dX3_init_4 rfl ?_
  refine z_bipush G (v := 25) dX3_init_5 (by decide) ?_
  refine z_newq G (N := 25) (c := 13) 2 rfl (by decide) cw_X3_11 ao_1 dX3_init_7 (by decide) (by omega) ⟨by omega, by omega⟩ (fun S1 I1 P1 h1 => ?_)
  rw [hs]
  have h1s := h1.so
  have ob := h1s.ob ob (by omega) (by omega)
  have ext := ext.tr (h1s.sub (by omega) (by omega))
  have ar1 := h1.ar hs
  have it1 := h1.it hs
  have hs : S1.1 = t + 2 := by have := h1.1; omega
  refine z_putR G hin fl_X3_13 ⟨_, rfl, rfl⟩ fr_3_0 rfl (fun _ => rfl) (fun _ => rfl) dX3_init_10 ob (fun P2 h2 => ?_)
  have ext := ext.tr (h2.so (by omega))
  have p0 := h2.2.2
  refine z_aload_n G dX3_init_13 rfl ?_
  refine z_iconst G (v := 0) dX3_init_14 (by decide) ?_
  refine z_putJ G fl_X3_17 ft_3_1 rfl rfl rfl dX3_init_15 ob (fun I3 h3 => ?_)
  have ext := ext.tr (h3.so (by omega))
  have i1 := h3.2.2
  refine z_aload_n G dX3_init_18 rfl ?_
  refine z_iconst G (v := 0) dX3_init_19 (by decide) ?_
  refine z_putJ G fl_X3_21 ft_3_2 rfl rfl rfl dX3_init_20 ob (fun I4 h4 => ?_)
  have ext := ext.tr (h4.so (by omega))
  have i1 := h4.it i1 (by omega)
  have i2 := h4.2.2
  refine z_iconst G (v := 0) dX3_init_23 (by decide) ?_
  refine z_istore_n G dX3_init_24 (Nat.le_of_ble_eq_true rfl) rfl ?_
  exact z_cs (by omega) (by omega) (loop1 25 0 0 _ _ _ rfl (by omega) (by omega) ext ⟨ob, p0, ar1, i1, i2⟩ FB.z)
set_option maxHeartbeats 1000000 in
set_option maxRecDepth 20000 in
theorem k_X2_init {E : pmE} {d : Nat} {S : pmS} {I : pmI} {P : pmP} {R : Option Value → pmS → pmI → pmP → Prop} {t : Nat} (ob : OB S t 2) (hs : S.1 = t + 1) (h : ∀ S1 I1 P1, S1.1 = t + 41 → SO S S1 I I1 P P1 0 t → FQ S1 P1 t → R none S1 I1 P1) : pmX E (d + 3) 40 248 yX2_init [rr E t] S I P R := by
  refine pm_ofI (by decide) cd_X2_init (by decide) (by decide) (Nat.le_of_ble_eq_true rfl) ?_
  intro C G hq hin
  have loop1 : ∀ (r i : Nat) (u : Int32) (S1 : pmS) (I1 : pmI) (P1 : pmP), u.toInt = (i : Int) → i + r = 5 → S1.1 = t + 31 + 2 * i → SO S S1 I I1 P P1 0 t → H2 S1 P1 t → FB (fun S _ P t => TabG S P t) 2 S1 I1 P1 (t + 24) (t + 31) i → pmZ E C 83 [some (rr E t), some (.int u)] [] S1 I1 P1 (30 + 2 * i) (193 + 11 * i) := by
    intro r
    induction r with
    | zero =>
      intro i u S1 I1 P1 hu hr hs ext hH hF
      obtain rfl : i = 5 := by omega
      obtain ⟨f1, ⟨f2, f3, f4, f5, f6, f7, f8, f9⟩, f10, f11, f12, f13, f14, f15, f16, f17⟩ := id hH
      refine z_iload_n G dX2_init_83 rfl ?_
      refine z_aload_n G dX2_init_84 rfl ?_
      refine z_getR G fl_X2_30 rfl dX2_init_85 f1 f6 ?_
      refine z_alen G 5 (v := 5) rfl (by decide) dX2_init_88 f14 (by decide) ?_
      refine z_icmp_ge G 111 dX2_init_89 (by decide) (fun _ => ?_) (fun c => absurd c (fun z => z (by simp (disch := omega) only [iN_lit, iN_add, iN_sub, iN_mul, iN_an, iN_le, iN_lt, iN_eq, iN_of hu] <;> omega)))
      exact z_cs (by omega) (by omega) (z_vret G hq dX2_init_111 (h S1 I1 P1 (by omega) ext ⟨f1, ⟨f2, f3, f4, f5, f6, f7, f8, f9⟩, f10, f11, f12, f13, f14, f15, f16, f17, hF⟩))
    | succ r ih =>
      intro i u S1 I1 P1 hu hr hs ext hH hF
      obtain ⟨f1, ⟨f2, f3, f4, f5, f6, f7, f8, f9⟩, f10, f11, f12, f13, f14, f15, f16, f17⟩ := id hH
      refine z_iload_n G dX2_init_83 rfl ?_
      refine z_aload_n G dX2_init_84 rfl ?_
      refine z_getR G fl_X2_30 rfl dX2_init_85 f1 f6 ?_
      refine z_alen G 5 (v := 5) rfl (by decide) dX2_init_88 f14 (by decide) ?_
      refine z_icmp_ge G 111 dX2_init_89 (by decide) (fun c => absurd c (by simp (disch := omega) only [iN_lit, iN_add, iN_sub, iN_mul, iN_an, iN_le, iN_lt, iN_eq, iN_of hu]; omega)) (fun _ => ?_)
      refine z_aload_n G dX2_init_92 rfl ?_
      refine z_getR G fl_X2_30 rfl dX2_init_93 f1 f6 ?_
      refine z_iload_n G dX2_init_96 rfl ?_
      refine z_newo G nk_X2_28 dX2_init_97 ⟨by omega, by omega⟩ (fun S2 I2 P2 h2 => ?_)
      rw [hs]
      have obn := h2.ob hs
      have h2s := h2.so
      have hs2 : S2.1 = t + 31 + 2 * i + 1 := by have := h2.1; omega
      refine z_dup G dX2_init_100 rfl ?_
      refine z_callIN G (List.mem_of_getElem? (i := 4) rfl) ini_7 im_7 rfl ⟨by decide +kernel, by decide +kernel, by decide +kernel⟩ dX2_init_101 rfl (Nat.le_of_ble_eq_true rfl) ⟨by omega, by omega⟩ (k_X7_init obn hs2 (fun S3 I3 P3 hs3 h3 b3 => ⟨rfl, ?_⟩))
      have s13 : SO S1 S3 I1 I3 P1 P3 0 (t + 31 + 2 * i) := (h2s.sub (by omega) (by omega)).tr h3
      have ext3 := ext.tr (s13.sub (by omega) (by omega))
      have hH3 := hH.so (s13.sub (by omega) (by omega))
      have hF3 := hF.so bso_tab s13 (by omega) (by omega) (by omega) (by omega)
      obtain ⟨f1, ⟨f2, f3, f4, f5, f6, f7, f8, f9⟩, f10, f11, f12, f13, f14, f15, f16, f17⟩ := id hH3
      refine z_aastR G 5 i rfl (ci := 7) rfl (by decide) (by decide) dX2_init_104 f14 hu (by omega) b3.1 (fun P4 h4 => ?_)
      refine z_iinc G (v := 1) dX2_init_105 (by decide) rfl rfl ?_
      refine z_goto G 83 dX2_init_108 (by decide) ?_
      exact z_cs (by omega) (by omega) (ih (i + 1) _ S3 I3 P4 (by simp (disch := omega) only [iN_lit, iN_add, iN_sub, iN_mul, iN_an, iN_of hu]; exact iN_ti2 (by omega) (by omega)) (by omega) (by omega) (ext3.tr (h4.so (by omega))) (H2.pr I3 hH3 h4) (hF3.put bso_tab b3 h4 (by omega)))
  have ext : SO S S I I P P 0 t := SO.rf
  refine z_aload_n G dX2_init_0 rfl ?_
  refine z_objI G ml_X2_3 oi_m oi_c dX2_init_1 rfl (Nat.le_of_ble_eq_true rfl) ?_
  refine z_aload_n G dX2_init_4 rfl ?_
  refine z_iconst G (v := 4) dX2_init_5 (by decide) ?_
  refine z_newi G (N := 4) aw_i dX2_init_6 (by decide) (by omega) ⟨by omega, by omega⟩ (fun S1 I1 P1 h1 => ?_)
  rw [hs]
  have h1s := h1.so
  have ob := h1s.ob ob (by omega) (by omega)
  have ext := ext.tr (h1s.sub (by omega) (by omega))
  have ar1 := h1.ar hs
  have it1 := h1.it hs
  have hs : S1.1 = t + 2 := by have := h1.1; omega
  refine z_putR G hin fl_X2_9 ⟨_, rfl, rfl⟩ fr_2_0 rfl (fun _ => rfl) (fun _ => rfl) dX2_init_8 ob (fun P2 h2 => ?_)
  have ext := ext.tr (h2.so (by omega))
  have p0 := h2.2.2
  refine z_aload_n G dX2_init_11 rfl ?_
  refine z_bipush G (v := 8) dX2_init_12 (by decide) ?_
  refine z_newi G (N := 8) aw_i dX2_init_14 (by decide) (by omega) ⟨by omega, by omega⟩ (fun S3 I3 P3 h3 => ?_)
  rw [hs]
  have h3s := h3.so
  have ob := h3s.ob ob (by omega) (by omega)
  have ext := ext.tr (h3s.sub (by omega) (by omega))
  have ar1 := h3s.ar ar1 (by omega) (by omega)
  have p0 := h3s.pf p0 (by omega) (by omega)
  have ar2 := h3.ar hs
  have it2 := h3.it hs
  have hs : S3.1 = t + 3 := by have := h3.1; omega
  refine z_putR G hin fl_X2_15 ⟨_, rfl, rfl⟩ fr_2_1 rfl (fun _ => rfl) (fun _ => rfl) dX2_init_16 ob (fun P4 h4 => ?_)
  have ext := ext.tr (h4.so (by omega))
  have p0 := h4.pf p0 (by omega)
  have p1 := h4.2.2
  refine z_aload_n G dX2_init_19 rfl ?_
  refine z_newo G nk_X2_18 dX2_init_20 ⟨by omega, by omega⟩ (fun S5 I5 P5 h5 => ?_)
  rw [hs]
  have h5s := h5.so
  have ob := h5s.ob ob (by omega) (by omega)
  have ext := ext.tr (h5s.sub (by omega) (by omega))
  have ar1 := h5s.ar ar1 (by omega) (by omega)
  have p0 := h5s.pf p0 (by omega) (by omega)
  have ar2 := h5s.ar ar2 (by omega) (by omega)
  have p1 := h5s.pf p1 (by omega) (by omega)
  have obn := h5.ob hs
  have hs : S5.1 = t + 3 + 1 := by have := h5.1; omega
  refine z_dup G dX2_init_23 rfl ?_
  refine z_callI G lk_X2_20 dX2_init_24 (As := []) rfl rfl rfl (Nat.le_of_ble_eq_true rfl) ⟨by omega, by omega⟩ (k_X1_init obn hs (fun S6 I6 P6 hs h6 b3 => ⟨rfl, ?_⟩))
  have ob := h6.ob ob (by omega) (by omega)
  have ext := ext.tr (h6.sub (by omega) (by omega))
  have ar1 := h6.ar ar1 (by omega) (by omega)
  have p0 := h6.pf p0 (by omega) (by omega)
  have ar2 := h6.ar ar2 (by omega) (by omega)
  have p1 := h6.pf p1 (by omega) (by omega)
  have hs : S6.1 = t + 23 := by omega
  refine z_putR G hin fl_X2_21 ⟨_, rfl, rfl⟩ fr_2_2 rfl (fun _ => rfl) (fun _ => rfl) dX2_init_27 ob (fun P7 h7 => ?_)
  have ext := ext.tr (h7.so (by omega))
  have p0 := h7.pf p0 (by omega)
  have p1 := h7.pf p1 (by omega)
  have b3 := b3.so (h7.so (I := I6) (by omega))
  have p2 := h7.2.2
  refine z_aload_n G dX2_init_30 rfl ?_
  refine z_bipush G (v := 8) dX2_init_31 (by decide) ?_
  refine z_newi G (N := 8) aw_i dX2_init_33 (by decide) (by omega) ⟨by omega, by omega⟩ (fun S8 I8 P8 h8 => ?_)
  rw [hs]
  have h8s := h8.so
  have ob := h8s.ob ob (by omega) (by omega)
  have ext := ext.tr (h8s.sub (by omega) (by omega))
  have ar1 := h8s.ar ar1 (by omega) (by omega)
  have p0 := h8s.pf p0 (by omega) (by omega)
  have ar2 := h8s.ar ar2 (by omega) (by omega)
  have p1 := h8s.pf p1 (by omega) (by omega)
  have b3 := b3.so (h8s.sub (by omega) (by omega))
  have p2 := h8s.pf p2 (by omega) (by omega)
  have ar23 := h8.ar hs
  have it23 := h8.it hs
  have hs : S8.1 = t + 24 := by have := h8.1; omega
  refine z_putR G hin fl_X2_25 ⟨_, rfl, rfl⟩ fr_2_3 rfl (fun _ => rfl) (fun _ => rfl) dX2_init_35 ob (fun P9 h9 => ?_)
  have ext := ext.tr (h9.so (by omega))
  have p0 := h9.pf p0 (by omega)
  have p1 := h9.pf p1 (by omega)
  have b3 := b3.so (h9.so (I := I8) (by omega))
  have p2 := h9.pf p2 (by omega)
  have p3 := h9.2.2
  refine z_aload_n G dX2_init_38 rfl ?_
  refine z_iconst G (v := 5) dX2_init_39 (by decide) ?_
  refine z_newq G (N := 5) (c := 16) 5 rfl (by decide) cw_X2_28 ao_7 dX2_init_40 (by decide) (by omega) ⟨by omega, by omega⟩ (fun S10 I10 P10 h10 => ?_)
  rw [hs]
  have h10s := h10.so
  have ob := h10s.ob ob (by omega) (by omega)
  have ext := ext.tr (h10s.sub (by omega) (by omega))
  have ar1 := h10s.ar ar1 (by omega) (by omega)
  have p0 := h10s.pf p0 (by omega) (by omega)
  have ar2 := h10s.ar ar2 (by omega) (by omega)
  have p1 := h10s.pf p1 (by omega) (by omega)
  have b3 := b3.so (h10s.sub (by omega) (by omega))
  have p2 := h10s.pf p2 (by omega) (by omega)
  have ar23 := h10s.ar ar23 (by omega) (by omega)
  have p3 := h10s.pf p3 (by omega) (by omega)
  have ar24 := h10.ar hs
  have it24 := h10.it hs
  have hs : S10.1 = t + 25 := by have := h10.1; omega
  refine z_putR G hin fl_X2_30 ⟨_, rfl, rfl⟩ fr_2_4 rfl (fun _ => rfl) (fun _ => rfl) dX2_init_43 ob (fun P11 h11 => ?_)
  have ext := ext.tr (h11.so (by omega))
  have p0 := h11.pf p0 (by omega)
  have p1 := h11.pf p1 (by omega)
  have b3 := b3.so (h11.so (I := I10) (by omega))
  have p2 := h11.pf p2 (by omega)
  have p3 := h11.pf p3 (by omega)
  have p4 := h11.2.2
  refine z_aload_n G dX2_init_46 rfl ?_
  refine z_newo G nk_X2_28 dX2_init_47 ⟨by omega, by omega⟩ (fun S12 I12 P12 h12 => ?_)
  rw [hs]
  have h12s := h12.so
  have ob := h12s.ob ob (by omega) (by omega)
  have ext := ext.tr (h12s.sub (by omega) (by omega))
  have ar1 := h12s.ar ar1 (by omega) (by omega)
  have p0 := h12s.pf p0 (by omega) (by omega)
  have ar2 := h12s.ar ar2 (by omega) (by omega)
  have p1 := h12s.pf p1 (by omega) (by omega)
  have b3 := b3.so (h12s.sub (by omega) (by omega))
  have p2 := h12s.pf p2 (by omega) (by omega)
  have ar23 := h12s.ar ar23 (by omega) (by omega)
  have p3 := h12s.pf p3 (by omega) (by omega)
  have ar24 := h12s.ar ar24 (by omega) (by omega)
  have p4 := h12s.pf p4 (by omega) (by omega)
  have obn := h12.ob hs
  have hs : S12.1 = t + 25 + 1 := by have := h12.1; omega
  refine z_dup G dX2_init_50 rfl ?_
  refine z_callIN G (List.mem_of_getElem? (i := 4) rfl) ini_7 im_7 rfl ⟨by decide +kernel, by decide +kernel, by decide +kernel⟩ dX2_init_51 rfl (Nat.le_of_ble_eq_true rfl) ⟨by omega, by omega⟩ (k_X7_init obn hs (fun S13 I13 P13 hs h13 b25 => ⟨rfl, ?_⟩))
  have ob := h13.ob ob (by omega) (by omega)
  have ext := ext.tr (h13.sub (by omega) (by omega))
  have ar1 := h13.ar ar1 (by omega) (by omega)
  have p0 := h13.pf p0 (by omega) (by omega)
  have ar2 := h13.ar ar2 (by omega) (by omega)
  have p1 := h13.pf p1 (by omega) (by omega)
  have b3 := b3.so (h13.sub (by omega) (by omega))
  have p2 := h13.pf p2 (by omega) (by omega)
  have ar23 := h13.ar ar23 (by omega) (by omega)
  have p3 := h13.pf p3 (by omega) (by omega)
  have ar24 := h13.ar ar24 (by omega) (by omega)
  have p4 := h13.pf p4 (by omega) (by omega)
  have hs : S13.1 = t + 27 := by omega
  refine z_putR G hin fl_X2_35 ⟨_, rfl, rfl⟩ fr_2_5 rfl (fun _ => rfl) (fun _ => rfl) dX2_init_54 ob (fun P14 h14 => ?_)
  have ext := ext.tr (h14.so (by omega))
  have p0 := h14.pf p0 (by omega)
  have p1 := h14.pf p1 (by omega)
  have b3 := b3.so (h14.so (I := I13) (by omega))
  have p2 := h14.pf p2 (by omega)
  have p3 := h14.pf p3 (by omega)
  have p4 := h14.pf p4 (by omega)
  have b25 := b25.so (h14.so (I := I13) (by omega))
  have p5 := h14.2.2
  refine z_aload_n G dX2_init_57 rfl ?_
  refine z_newo G nk_X2_39 dX2_init_58 ⟨by omega, by omega⟩ (fun S15 I15 P15 h15 => ?_)
  rw [hs]
  have h15s := h15.so
  have ob := h15s.ob ob (by omega) (by omega)
  have ext := ext.tr (h15s.sub (by omega) (by omega))
  have ar1 := h15s.ar ar1 (by omega) (by omega)
  have p0 := h15s.pf p0 (by omega) (by omega)
  have ar2 := h15s.ar ar2 (by omega) (by omega)
  have p1 := h15s.pf p1 (by omega) (by omega)
  have b3 := b3.so (h15s.sub (by omega) (by omega))
  have p2 := h15s.pf p2 (by omega) (by omega)
  have ar23 := h15s.ar ar23 (by omega) (by omega)
  have p3 := h15s.pf p3 (by omega) (by omega)
  have ar24 := h15s.ar ar24 (by omega) (by omega)
  have p4 := h15s.pf p4 (by omega) (by omega)
  have b25 := b25.so (h15s.sub (by omega) (by omega))
  have p5 := h15s.pf p5 (by omega) (by omega)
  have obn := h15.ob hs
  have hs : S15.1 = t + 27 + 1 := by have := h15.1; omega
  refine z_dup G dX2_init_61 rfl ?_
  refine z_callIN G (List.mem_of_getElem? (i := 5) rfl) ini_8 im_8 rfl ⟨by decide +kernel, by decide +kernel, by decide +kernel⟩ dX2_init_62 rfl (Nat.le_of_ble_eq_true rfl) ⟨by omega, by omega⟩ (k_X8_init obn hs (fun S16 I16 P16 hs h16 b27 => ⟨rfl, ?_⟩))
  have ob := h16.ob ob (by omega) (by omega)
  have ext := ext.tr (h16.sub (by omega) (by omega))
  have ar1 := h16.ar ar1 (by omega) (by omega)
  have p0 := h16.pf p0 (by omega) (by omega)
  have ar2 := h16.ar ar2 (by omega) (by omega)
  have p1 := h16.pf p1 (by omega) (by omega)
  have b3 := b3.so (h16.sub (by omega) (by omega))
  have p2 := h16.pf p2 (by omega) (by omega)
  have ar23 := h16.ar ar23 (by omega) (by omega)
  have p3 := h16.pf p3 (by omega) (by omega)
  have ar24 := h16.ar ar24 (by omega) (by omega)
  have p4 := h16.pf p4 (by omega) (by omega)
  have b25 := b25.so (h16.sub (by omega) (by omega))
  have p5 := h16.pf p5 (by omega) (by omega)
  have hs : S16.1 = t + 30 := by omega
  refine z_putR G hin fl_X2_42 ⟨_, rfl, rfl⟩ fr_2_6 rfl (fun _ => rfl) (fun _ => rfl) dX2_init_65 ob (fun P17 h17 => ?_)
  have ext := ext.tr (h17.so (by omega))
  have p0 := h17.pf p0 (by omega)
  have p1 := h17.pf p1 (by omega)
  have b3 := b3.so (h17.so (I := I16) (by omega))
  have p2 := h17.pf p2 (by omega)
  have p3 := h17.pf p3 (by omega)
  have p4 := h17.pf p4 (by omega)
  have b25 := b25.so (h17.so (I := I16) (by omega))
  have p5 := h17.pf p5 (by omega)
  have b27 := b27.so (h17.so (I := I16) (by omega))
  have p6 := h17.2.2
  refine z_aload_n G dX2_init_68 rfl ?_
  refine z_bipush G (v := 12) dX2_init_69 (by decide) ?_
  refine z_newi G (N := 12) aw_i dX2_init_71 (by decide) (by omega) ⟨by omega, by omega⟩ (fun S18 I18 P18 h18 => ?_)
  rw [hs]
  have h18s := h18.so
  have ob := h18s.ob ob (by omega) (by omega)
  have ext := ext.tr (h18s.sub (by omega) (by omega))
  have ar1 := h18s.ar ar1 (by omega) (by omega)
  have p0 := h18s.pf p0 (by omega) (by omega)
  have ar2 := h18s.ar ar2 (by omega) (by omega)
  have p1 := h18s.pf p1 (by omega) (by omega)
  have b3 := b3.so (h18s.sub (by omega) (by omega))
  have p2 := h18s.pf p2 (by omega) (by omega)
  have ar23 := h18s.ar ar23 (by omega) (by omega)
  have p3 := h18s.pf p3 (by omega) (by omega)
  have ar24 := h18s.ar ar24 (by omega) (by omega)
  have p4 := h18s.pf p4 (by omega) (by omega)
  have b25 := b25.so (h18s.sub (by omega) (by omega))
  have p5 := h18s.pf p5 (by omega) (by omega)
  have b27 := b27.so (h18s.sub (by omega) (by omega))
  have p6 := h18s.pf p6 (by omega) (by omega)
  have ar30 := h18.ar hs
  have it30 := h18.it hs
  have hs : S18.1 = t + 31 := by have := h18.1; omega
  refine z_putR G hin fl_X2_46 ⟨_, rfl, rfl⟩ fr_2_7 rfl (fun _ => rfl) (fun _ => rfl) dX2_init_73 ob (fun P19 h19 => ?_)
  have ext := ext.tr (h19.so (by omega))
  have p0 := h19.pf p0 (by omega)
  have p1 := h19.pf p1 (by omega)
  have b3 := b3.so (h19.so (I := I18) (by omega))
  have p2 := h19.pf p2 (by omega)
  have p3 := h19.pf p3 (by omega)
  have p4 := h19.pf p4 (by omega)
  have b25 := b25.so (h19.so (I := I18) (by omega))
  have p5 := h19.pf p5 (by omega)
  have b27 := b27.so (h19.so (I := I18) (by omega))
  have p6 := h19.pf p6 (by omega)
  have p7 := h19.2.2
  refine z_aload_n G dX2_init_76 rfl ?_
  refine z_iconst G (v := 0) dX2_init_77 (by decide) ?_
  refine z_putJ G fl_X2_49 ft_2_8 rfl rfl rfl dX2_init_78 ob (fun I20 h20 => ?_)
  have ext := ext.tr (h20.so (by omega))
  have b3 := b3.so (h20.so (by omega))
  have b25 := b25.so (h20.so (by omega))
  have b27 := b27.so (h20.so (by omega))
  have i8 := h20.2.2
  refine z_iconst G (v := 0) dX2_init_81 (by decide) ?_
  refine z_istore_n G dX2_init_82 (Nat.le_of_ble_eq_true rfl) rfl ?_
  exact z_cs (by omega) (by omega) (loop1 5 0 0 _ _ _ rfl (by omega) (by omega) ext ⟨ob, ⟨p0, p1, p2, p3, p4, p5, p6, p7⟩, ar1, ar2, b3.1, ar23, ar24, b25, b27.1, ar30⟩ FB.z)
