/-! the reference's reader -/
def refT (t : Int32) : Int32 := if t = -2 then 2 else if t = -3 then 5 else if t = -1 then 0 else if 97 ≤ t ∧ t ≤ 122 then 1 else if t = 44 then 3 else if t = 59 then 4 else 5
/-- the token at a comes next -/
def MT (I : pmI) (m : Nat) (tp : Nat → Int32) (a : Nat) : Prop := I m 10 = iN a ∧ I m 11 = refT (tkT tp a) ∧ (tkT tp a = -2 → I m 12 = iN (tkN tp a)) ∧ (¬ tkT tp a = -2 → ¬ tkT tp a = -3 → I m 12 = tkT tp a) ∧ (¬ tkT tp a = -1 → I m 9 = iN (tkE tp a))
def TM (I : pmI) (m : Nat) (tp : Nat → Int32) : Prop := ∃ L : Nat, (I m 6).toInt = (L : Int) ∧ TP tp L ∧ ∀ i, i < L → I (m + 5) i = tp i
/-- what reading may change -/
def FM (I J : pmI) (m : Nat) : Prop := (∀ k, k ≠ m → k ≠ m + 7 → J k = I k) ∧ ∀ j, j < 7 ∨ 12 < j → J m j = I m j
def OKm (I J : pmI) (m : Nat) : Prop := FM I J m ∧ J m 7 = I m 7 ∧ J m 8 = I m 8
def BDm (I J : pmI) (m : Nat) (e : Int32 × Nat) : Prop := FM I J m ∧ J m 7 = e.1 ∧ J m 8 = iN e.2
theorem OKm.rf {I : pmI} {m : Nat} : OKm I I m := ⟨⟨fun _ _ _ => rfl, fun _ _ => rfl⟩, rfl, rfl⟩
theorem FM.tr {I J K : pmI} {m : Nat} (h : FM I J m) (h2 : FM J K m) : FM I K m := ⟨fun k a b => (h2.1 k a b).trans (h.1 k a b), fun j a => (h2.2 j a).trans (h.2 j a)⟩
theorem OKm.tr {I J K : pmI} {m : Nat} (h : OKm I J m) (h2 : OKm J K m) : OKm I K m := ⟨h.1.tr h2.1, h2.2.1.trans h.2.1, h2.2.2.trans h.2.2⟩
theorem OKm.bd {I J K : pmI} {m : Nat} {e : Int32 × Nat} (h : OKm I J m) (h2 : BDm J K m e) : BDm I K m e := ⟨h.1.tr h2.1, h2.2⟩
theorem BDm.ok {I J K : pmI} {m : Nat} {e : Int32 × Nat} (h : BDm I J m e) (h2 : OKm J K m) : BDm I K m e := ⟨h.1.tr h2.1, h2.2.1.trans h.2.1, h2.2.2.trans h.2.2⟩
theorem OKm.dr {I : pmI} {m : Nat} {v : Nat → Int32} : OKm I (va_up I (m + 7) v) m := ⟨⟨fun k a b => va_ne' b, fun j _ => by rw [va_ne' (by omega)]⟩, by rw [va_ne' (by omega)], by rw [va_ne' (by omega)]⟩
theorem TM.fm {I J : pmI} {m : Nat} {tp : Nat → Int32} (h : TM I m tp) (hf : FM I J m) : TM J m tp := by
  obtain ⟨L, h1, h2, h3⟩ := h
  exact ⟨L, by rw [hf.2 6 (by omega)]; exact h1, h2, fun i hi => by rw [hf.1 (m + 5) (by omega) (by omega)]; exact h3 i hi⟩
theorem MT.dr {I : pmI} {m a : Nat} {tp v : Nat → Int32} (h : MT I m tp a) : MT (va_up I (m + 7) v) m tp a := by
  unfold MT at h ⊢; rw [va_ne' (by omega)]; exact h
/-- the same as far as a row of 124 goes -/
def E4 (f g : Nat → Int32) : Prop := ∀ i, i < 124 → f i = g i
theorem E4.up {f g : Nat → Int32} {k : Nat} {v : Int32} (h : E4 f g) : E4 (va_up f k v) (va_up g k v) := fun i hi => by
  by_cases hk : i = k
  · rw [va_at' hk, va_at' hk]
  · rw [va_ne' hk, va_ne' hk]; exact h i hi
theorem E4.fresh {f g : Nat → Int32} {k : Nat} {a b : Int32} (h : E4 f g) : E4 (freshF f k a b) (freshF g k a b) := h.up.up.up.up.up
theorem TP.by {tp : Nat → Int32} {L : Nat} (h : TP tp L) (a : Nat) : tp a = -1 ∨ 0 ≤ (tp a).toInt := by
  by_cases hL : a < L
  · obtain ⟨b, hb, _⟩ := h.2.1 a hL; right; omega
  · left; exact h.2.2 a (by omega)
theorem refT_1 {t : Int32} : refT t = 1 ↔ 97 ≤ t ∧ t ≤ 122 := by
  unfold refT
  by_cases h1 : t = -2
  · rw [if_pos h1, h1]; decide
  by_cases h2 : t = -3
  · rw [if_neg h1, if_pos h2, h2]; decide
  by_cases h3 : t = -1
  · rw [if_neg h1, if_neg h2, if_pos h3, h3]; decide
  rw [if_neg h1, if_neg h2, if_neg h3]
  by_cases h4 : 97 ≤ t ∧ t ≤ 122
  · rw [if_pos h4]; exact ⟨fun _ => h4, fun _ => rfl⟩
  rw [if_neg h4]
  refine ⟨fun z => ?_, fun z => absurd z h4⟩
  by_cases h5 : t = 44
  · rw [if_pos h5] at z; exact absurd z (by decide)
  rw [if_neg h5] at z
  by_cases h6 : t = 59
  · rw [if_pos h6] at z; exact absurd z (by decide)
  rw [if_neg h6] at z; exact absurd z (by decide)
theorem refT_o {t v : Int32} {r : Int32} (hv : refT v = r) (hr : ¬ r = 5 ∧ ¬ r = 1) : refT t = r ↔ t = v := by
  refine ⟨fun z => ?_, fun z => by rw [z]; exact hv⟩
  have key : ∀ s : Int32, refT s = r → (s = -2 ∧ r = 2) ∨ (s = -1 ∧ r = 0) ∨ (s = 44 ∧ r = 3) ∨ (s = 59 ∧ r = 4) := by
    intro s hs
    unfold refT at hs
    by_cases h1 : s = -2
    · rw [if_pos h1] at hs; exact Or.inl ⟨h1, hs.symm⟩
    by_cases h2 : s = -3
    · rw [if_neg h1, if_pos h2] at hs; exact absurd hs.symm hr.1
    by_cases h3 : s = -1
    · rw [if_neg h1, if_neg h2, if_pos h3] at hs; exact Or.inr (Or.inl ⟨h3, hs.symm⟩)
    rw [if_neg h1, if_neg h2, if_neg h3] at hs
    by_cases h4 : 97 ≤ s ∧ s ≤ 122
    · rw [if_pos h4] at hs; exact absurd hs.symm hr.2
    rw [if_neg h4] at hs
    by_cases h5 : s = 44
    · rw [if_pos h5] at hs; exact Or.inr (Or.inr (Or.inl ⟨h5, hs.symm⟩))
    rw [if_neg h5] at hs
    by_cases h6 : s = 59
    · rw [if_pos h6] at hs; exact Or.inr (Or.inr (Or.inr ⟨h6, hs.symm⟩))
    rw [if_neg h6] at hs; exact absurd hs.symm hr.1
  rcases key t z with ⟨a, b⟩ | ⟨a, b⟩ | ⟨a, b⟩ | ⟨a, b⟩ <;> rcases key v hv with ⟨c, e⟩ | ⟨c, e⟩ | ⟨c, e⟩ | ⟨c, e⟩ <;> first | exact a.trans c.symm | exact absurd (b.symm.trans e) (by decide)
theorem rf_num {t : Int32} : refT t = 2 ↔ t = -2 := refT_o (by decide) (by decide)
theorem rf_end {t : Int32} : refT t = 0 ↔ t = -1 := refT_o (by decide) (by decide)
theorem rf_com {t : Int32} : refT t = 3 ↔ t = 44 := refT_o (by decide) (by decide)
theorem rf_stp {t : Int32} : refT t = 4 ↔ t = 59 := refT_o (by decide) (by decide)
theorem MT.let {I : pmI} {m a : Nat} {tp : Nat → Int32} {v : Int32} (h : MT I m tp a) (hv : 97 ≤ v ∧ v ≤ 122) : (I m 11 = 1 ∧ I m 12 = v) ↔ tkT tp a = v := by
  obtain ⟨h1, h2, h3, h4, h5⟩ := h
  have hn : ∀ s : Int32, 97 ≤ s ∧ s ≤ 122 → ¬ s = -2 ∧ ¬ s = -3 := fun s hs => ⟨fun z => by rw [z] at hs; exact absurd hs (by decide), fun z => by rw [z] at hs; exact absurd hs (by decide)⟩
  constructor
  · rintro ⟨a1, a2⟩
    rw [h2, refT_1] at a1
    rw [← h4 (hn _ a1).1 (hn _ a1).2, a2]
  · intro e
    have := hn v hv
    exact ⟨by rw [h2, refT_1, e]; exact hv, by rw [h4 (by rw [e]; exact this.1) (by rw [e]; exact this.2), e]⟩
theorem MT.kd {I : pmI} {m a : Nat} {tp : Nat → Int32} (h : MT I m tp a) (hk : ¬ kdOf (tkT tp a) = 0) : I m 11 = 1 ∧ I m 12 = tkT tp a := (h.let (kdOf_ne hk)).mpr rfl
theorem MT.nk {I : pmI} {m a : Nat} {tp : Nat → Int32} (h : MT I m tp a) (h1 : I m 11 = 1) : I m 12 = tkT tp a := by
  have h9 := h1
  rw [h.2.1, refT_1] at h9
  exact h.2.2.2.1 (fun z => by rw [z] at h9; exact absurd h9 (by decide)) (fun z => by rw [z] at h9; exact absurd h9 (by decide))
set_option maxHeartbeats 1000000 in
set_option maxRecDepth 20000 in
theorem k_X10_byteAt {E : pmE} {d : Nat} {S : pmS} {I : pmI} {P : pmP} {R : Option Value → pmS → pmI → pmP → Prop} {m : Nat} (hM : MG S P m) {tp : Nat → Int32} {L : Nat} (hL : (I m 6).toInt = (L : Int)) (hP : TP tp L) (hv : ∀ i, i < L → I (m + 5) i = tp i) {k : Nat} {x : Int32} (hx : x.toInt = (k : Int)) (h : R (some (.int (tp k))) S I P) : pmX E d 0 0 yX10_byteAt [rr E m, .int x] S I P R := by
  refine pm_of (by decide) cd_X10_byteAt (by decide) (by decide) (Nat.le_of_ble_eq_true rfl) ?_
  intro C G hq
  obtain ⟨g0, ⟨r0, r1, r2, r3, r4, r5, r6, r7, r8, r9, r10, r11, r12, r13, r14⟩, ⟨s1, s2, s3, s4, s5, s6, s7, s8, s9, s10, s11, s12, s13, s14, s15⟩⟩ := id hM
  refine z_iload_n G dX10_byteAt_0 rfl ?_
  refine z_aload_n G dX10_byteAt_1 rfl ?_
  refine z_getI G fl_X10_88 rfl dX10_byteAt_2 (by assumption) ?_
  refine z_icmp_ge G 17 dX10_byteAt_5 (by decide) (fun b5 => ?_) (fun b5 => ?_)
  · refine z_iconst G (v := -1) dX10_byteAt_17 (by decide) ?_
    exact z_iret G hq dX10_byteAt_18 (by have e : tp k = -1 := hP.2.2 k (by simp only [ti_lt, ti_le, Int32.reduceToInt, hx, hL] at b5; omega); rw [e] at h; exact h)
  · have hkL : k < L := by simp only [ti_lt, ti_le, Int32.reduceToInt, hx, hL] at b5; omega
    have hL80 := hP.1
    refine z_aload_n G dX10_byteAt_8 rfl ?_
    refine z_getR G fl_X10_22 rfl dX10_byteAt_9 (by assumption) (by assumption) ?_
    refine z_iload_n G dX10_byteAt_12 rfl ?_
    refine z_iald G (k) dX10_byteAt_13 (by assumption) (hx) (by omega) ?_
    refine z_goto G 18 dX10_byteAt_14 (by decide) ?_
    exact z_iret G hq dX10_byteAt_18 (by rw [← hv k hkL] at h; exact h)
set_option maxHeartbeats 1000000 in
set_option maxRecDepth 20000 in
theorem k_X10_advances {E : pmE} {d : Nat} {S : pmS} {I : pmI} {P : pmP} {R : Option Value → pmS → pmI → pmP → Prop} {m : Nat} (hM : MG S P m) {a : Nat} {tp : Nat → Int32} (hC : TM I m tp) (ha : I m 9 = iN a) (ha80 : a ≤ 80) (h : ∀ J, (∀ k, k ≠ m → J k = I k) → (∀ j, j < 9 ∨ 12 < j → J m j = I m j) → MT J m tp a → R none S J P) : pmX E (d + 1) 0 0 yX10_advances [rr E m] S I P R := by
  refine pm_of (by decide) cd_X10_advances (by decide) (by decide) (Nat.le_of_ble_eq_true rfl) ?_
  intro C G hq
  obtain ⟨g0, ⟨r0, r1, r2, r3, r4, r5, r6, r7, r8, r9, r10, r11, r12, r13, r14⟩, ⟨s1, s2, s3, s4, s5, s6, s7, s8, s9, s10, s11, s12, s13, s14, s15⟩⟩ := id hM
  obtain ⟨L, hL, hP, hv⟩ := id hC
  have hL80 := hP.1
  obtain ⟨t1, t2, t3, t4, t5⟩ := hP.D a
  have hb2 := hP.b2 a
  have loop : isD (tp a) → ∀ (r k : Nat) (J : pmI), a ≤ k → k + r = tkD tp a → (∀ k, k ≠ m → J k = I k) → (∀ j, j < 9 ∨ 12 < j → J m j = I m j) → J m 10 = iN a → J m 9 = iN k → (k ≤ a + 2 → J m 12 = iN (pvN tp a (k - a))) → pmZ E C 38 [some (rr E m), some (.int (tp a))] [] S J P 0 0 := by
    intro hd0 r
    have hD : ¬ tkD tp a = a := fun z => by rw [z] at t4; exact t4 hd0
    have hkL := t5 (by omega)
    induction r with
    | zero =>
      intro k J hk hr f1 f2 e10 e9 e12
      obtain rfl : k = tkD tp a := by omega
      refine z_aload_n G dX10_advances_38 rfl ?_
      refine z_aload_n G dX10_advances_39 rfl ?_
      refine z_getI G fl_X10_92 rfl dX10_advances_40 (by assumption) ?_
      rw [e9]
      refine z_V G lk_X10_98 dX10_advances_43 [_] rfl rfl rfl (Nat.le_of_ble_eq_true rfl) ⟨Nat.le_refl _, Nat.le_refl _⟩ (by assumption) ?_
      refine k_X10_byteAt hM (by rw [f2 6 (by omega)]; exact hL) hP (fun i hi => by rw [f1 (m + 5) (by omega)]; exact hv i hi) (k := tkD tp a) (iN_ti (by omega)) ?_
      refine z_bipush G (v := 48) dX10_advances_46 (by decide) ?_
      refine z_bipush G (v := 57) dX10_advances_48 (by decide) ?_
      refine z_S G lk_X10_62 dX10_advances_50 [_, _, _] rfl rfl rfl (Nat.le_of_ble_eq_true rfl) ⟨Nat.le_refl _, Nat.le_refl _⟩ ?_
      refine k_X10_in (fun q => absurd q t4) (fun _ => ?_)
      refine z_if_eq G 112 dX10_advances_53 (by decide) (fun _ => ?_) (fun c => absurd c (by decide))
      refine z_aload_n G dX10_advances_112 rfl ?_
      refine z_aload_n G dX10_advances_113 rfl ?_
      refine z_getI G fl_X10_92 rfl dX10_advances_114 (by assumption) ?_
      refine z_aload_n G dX10_advances_117 rfl ?_
      refine z_getI G fl_X10_95 rfl dX10_advances_118 (by assumption) ?_
      rw [e9, e10]
      refine z_isub G dX10_advances_121 ?_
      rw [iN_sub (by omega)]
      refine z_iconst G (v := 3) dX10_advances_122 (by decide) ?_
      refine z_icmp_ge G 130 dX10_advances_123 (by decide) (fun b123 => ?_) (fun b123 => ?_)
      · have h2 : ¬ tkD tp a ≤ a + 2 := by rw [iN_lit, iN_le (by omega) (by omega)] at b123; omega
        refine z_iconst G (v := 5) dX10_advances_130 (by decide) ?_
        refine z_putI G fl_X10_104 ft_10_11 rfl rfl rfl dX10_advances_131 (by assumption) ?_
        exact z_vret G hq dX10_advances_134 (h _ (fun k hk => by rw [va_ne' hk]; exact f1 k hk) (fun j hj => by simp (disch := omega) only [va_at', va_ne', va_up_up]; exact f2 j hj) ⟨by simp (disch := omega) only [va_at', va_ne', va_up_up]; exact e10, by simp (disch := omega) only [va_at', va_ne', va_up_up]; rw [tkT_3 hD h2]; rfl, fun z => by rw [tkT_3 hD h2] at z; exact absurd z (by decide), fun _ z => absurd (tkT_3 hD h2) z, fun _ => by simp (disch := omega) only [va_at', va_ne', va_up_up]; rw [e9, tkE_n hD]⟩)
      · have h2 : tkD tp a ≤ a + 2 := by rw [iN_lit, iN_le (by omega) (by omega)] at b123; omega
        refine z_iconst G (v := 2) dX10_advances_126 (by decide) ?_
        refine z_goto G 131 dX10_advances_127 (by decide) ?_
        refine z_putI G fl_X10_104 ft_10_11 rfl rfl rfl dX10_advances_131 (by assumption) ?_
        exact z_vret G hq dX10_advances_134 (h _ (fun k hk => by rw [va_ne' hk]; exact f1 k hk) (fun j hj => by simp (disch := omega) only [va_at', va_ne', va_up_up]; exact f2 j hj) ⟨by simp (disch := omega) only [va_at', va_ne', va_up_up]; exact e10, by simp (disch := omega) only [va_at', va_ne', va_up_up]; rw [tkT_2 hD h2]; rfl, fun _ => by simp (disch := omega) only [va_at', va_ne', va_up_up]; exact e12 h2, fun z _ => absurd (tkT_2 hD h2) z, fun _ => by simp (disch := omega) only [va_at', va_ne', va_up_up]; rw [e9, tkE_n hD]⟩)
    | succ r ih =>
      intro k J hk hr f1 f2 e10 e9 e12
      have hlt : k < tkD tp a := by omega
      have hdk := t3 k hk hlt
      refine z_aload_n G dX10_advances_38 rfl ?_
      refine z_aload_n G dX10_advances_39 rfl ?_
      refine z_getI G fl_X10_92 rfl dX10_advances_40 (by assumption) ?_
      rw [e9]
      refine z_V G lk_X10_98 dX10_advances_43 [_] rfl rfl rfl (Nat.le_of_ble_eq_true rfl) ⟨Nat.le_refl _, Nat.le_refl _⟩ (by assumption) ?_
      refine k_X10_byteAt hM (by rw [f2 6 (by omega)]; exact hL) hP (fun i hi => by rw [f1 (m + 5) (by omega)]; exact hv i hi) (k := k) (iN_ti (by omega)) ?_
      refine z_bipush G (v := 48) dX10_advances_46 (by decide) ?_
      refine z_bipush G (v := 57) dX10_advances_48 (by decide) ?_
      refine z_S G lk_X10_62 dX10_advances_50 [_, _, _] rfl rfl rfl (Nat.le_of_ble_eq_true rfl) ⟨Nat.le_refl _, Nat.le_refl _⟩ ?_
      refine k_X10_in (fun _ => ?_) (fun q => absurd hdk q)
      refine z_if_eq G 112 dX10_advances_53 (by decide) (fun c => absurd c (by decide)) (fun _ => ?_)
      refine z_aload_n G dX10_advances_56 rfl ?_
      refine z_aload_n G dX10_advances_57 rfl ?_
      refine z_getI G fl_X10_92 rfl dX10_advances_58 (by assumption) ?_
      refine z_aload_n G dX10_advances_61 rfl ?_
      refine z_getI G fl_X10_95 rfl dX10_advances_62 (by assumption) ?_
      rw [e9, e10]
      refine z_isub G dX10_advances_65 ?_
      rw [iN_sub (by omega)]
      refine z_iconst G (v := 2) dX10_advances_66 (by decide) ?_
      refine z_icmp_ge G 92 dX10_advances_67 (by decide) (fun b67 => ?_) (fun b67 => ?_)
      · have h2 : ¬ k + 1 ≤ a + 2 := by rw [iN_lit, iN_le (by omega) (by omega)] at b67; omega
        refine z_aload_n G dX10_advances_92 rfl ?_
        refine z_getI G fl_X10_101 rfl dX10_advances_93 (by assumption) ?_
        refine z_putI G fl_X10_101 ft_10_12 rfl rfl rfl dX10_advances_96 (by assumption) ?_
        refine z_aload_n G dX10_advances_99 rfl ?_
        refine z_dup G dX10_advances_100 rfl ?_
        try simp (disch := omega) only [va_at', va_ne', va_up_up]
        refine z_getI G fl_X10_92 rfl dX10_advances_101 (by assumption) ?_
        try simp (disch := omega) only [va_at', va_ne', va_up_up]
        refine z_iconst G (v := 1) dX10_advances_104 (by decide) ?_
        refine z_iadd G dX10_advances_105 ?_
        refine z_putI G fl_X10_92 ft_10_9 rfl rfl rfl dX10_advances_106 (by assumption) ?_
        refine z_goto G 38 dX10_advances_109 (by decide) ?_
        try simp (disch := omega) only [va_at', va_ne', va_up_up]
        refine ih (k + 1) _ (by omega) (by omega) (fun q hq => by rw [va_ne' hq]; exact f1 q hq) (fun j hj => by simp (disch := omega) only [va_at', va_ne', va_up_up]; exact f2 j hj) (by simp (disch := omega) only [va_at', va_ne', va_up_up]; exact e10) (by simp (disch := omega) only [va_at', va_ne', va_up_up]; rw [e9]; exact iN_add k 1) (fun z => absurd z h2)
      · have h2 : k + 1 ≤ a + 2 := by rw [iN_lit, iN_le (by omega) (by omega)] at b67; omega
        refine z_bipush G (v := 10) dX10_advances_70 (by decide) ?_
        refine z_aload_n G dX10_advances_72 rfl ?_
        refine z_getI G fl_X10_101 rfl dX10_advances_73 (by assumption) ?_
        refine z_imul G dX10_advances_76 ?_
        refine z_aload_n G dX10_advances_77 rfl ?_
        refine z_aload_n G dX10_advances_78 rfl ?_
        refine z_getI G fl_X10_92 rfl dX10_advances_79 (by assumption) ?_
        rw [e9]
        refine z_V G lk_X10_98 dX10_advances_82 [_] rfl rfl rfl (Nat.le_of_ble_eq_true rfl) ⟨Nat.le_refl _, Nat.le_refl _⟩ (by assumption) ?_
        refine k_X10_byteAt hM (by rw [f2 6 (by omega)]; exact hL) hP (fun i hi => by rw [f1 (m + 5) (by omega)]; exact hv i hi) (k := k) (iN_ti (by omega)) ?_
        refine z_iadd G dX10_advances_85 ?_
        refine z_bipush G (v := 48) dX10_advances_86 (by decide) ?_
        refine z_isub G dX10_advances_88 ?_
        refine z_top (pv_stepM hk h2 (e12 (by omega)) hd0 hdk) ?_
        refine z_goto G 96 dX10_advances_89 (by decide) ?_
        refine z_putI G fl_X10_101 ft_10_12 rfl rfl rfl dX10_advances_96 (by assumption) ?_
        refine z_aload_n G dX10_advances_99 rfl ?_
        refine z_dup G dX10_advances_100 rfl ?_
        try simp (disch := omega) only [va_at', va_ne', va_up_up]
        refine z_getI G fl_X10_92 rfl dX10_advances_101 (by assumption) ?_
        try simp (disch := omega) only [va_at', va_ne', va_up_up]
        refine z_iconst G (v := 1) dX10_advances_104 (by decide) ?_
        refine z_iadd G dX10_advances_105 ?_
        refine z_putI G fl_X10_92 ft_10_9 rfl rfl rfl dX10_advances_106 (by assumption) ?_
        refine z_goto G 38 dX10_advances_109 (by decide) ?_
        try simp (disch := omega) only [va_at', va_ne', va_up_up]
        refine ih (k + 1) _ (by omega) (by omega) (fun q hq => by rw [va_ne' hq]; exact f1 q hq) (fun j hj => by simp (disch := omega) only [va_at', va_ne', va_up_up]; exact f2 j hj) (by simp (disch := omega) only [va_at', va_ne', va_up_up]; exact e10) (by simp (disch := omega) only [va_at', va_ne', va_up_up]; rw [e9]; exact iN_add k 1) (fun z => by simp (disch := omega) only [va_at', va_ne', va_up_up])
  refine z_aload_n G dX10_advances_0 rfl ?_
  refine z_aload_n G dX10_advances_1 rfl ?_
  refine z_getI G fl_X10_92 rfl dX10_advances_2 (by assumption) ?_
  rw [ha]
  refine z_putI G fl_X10_95 ft_10_10 rfl rfl rfl dX10_advances_5 (by assumption) ?_
  refine z_aload_n G dX10_advances_8 rfl ?_
  refine z_aload_n G dX10_advances_9 rfl ?_
  try simp (disch := omega) only [va_at', va_ne', va_up_up]
  refine z_getI G fl_X10_92 rfl dX10_advances_10 (by assumption) ?_
  try simp (disch := omega) only [va_at', va_ne', va_up_up]
  rw [ha]
  refine z_V G lk_X10_98 dX10_advances_13 [_] rfl rfl rfl (Nat.le_of_ble_eq_true rfl) ⟨Nat.le_refl _, Nat.le_refl _⟩ (by assumption) ?_
  refine k_X10_byteAt hM (by simp (disch := omega) only [va_at', va_ne', va_up_up]; exact hL) hP (fun i hi => by simp (disch := omega) only [va_at', va_ne', va_up_up]; exact hv i hi) (k := a) (iN_ti (by omega)) ?_
  refine z_istore_n G dX10_advances_16 (Nat.le_of_ble_eq_true rfl) rfl ?_
  refine z_aload_n G dX10_advances_17 rfl ?_
  refine z_iload_n G dX10_advances_18 rfl ?_
  refine z_putI G fl_X10_101 ft_10_12 rfl rfl rfl dX10_advances_19 (by assumption) ?_
  try simp (disch := omega) only [va_at', va_ne', va_up_up]
  refine z_iload_n G dX10_advances_22 rfl ?_
  refine z_bipush G (v := 48) dX10_advances_23 (by decide) ?_
  refine z_bipush G (v := 57) dX10_advances_25 (by decide) ?_
  refine z_S G lk_X10_62 dX10_advances_27 [_, _, _] rfl rfl rfl (Nat.le_of_ble_eq_true rfl) ⟨Nat.le_refl _, Nat.le_refl _⟩ ?_
  refine k_X10_in ?_ ?_
  · intro hin
    refine z_if_eq G 135 dX10_advances_30 (by decide) (fun c => absurd c (by decide)) (fun _ => ?_)
    refine z_aload_n G dX10_advances_33 rfl ?_
    refine z_iconst G (v := 0) dX10_advances_34 (by decide) ?_
    refine z_putI G fl_X10_101 ft_10_12 rfl rfl rfl dX10_advances_35 (by assumption) ?_
    try simp (disch := omega) only [va_at', va_ne', va_up_up]
    exact loop hin (tkD tp a - a) a _ (Nat.le_refl _) (by omega) (fun q hq => va_ne' hq) (fun j hj => by simp (disch := omega) only [va_at', va_ne', va_up_up]) (by simp (disch := omega) only [va_at', va_ne', va_up_up]) (by simp (disch := omega) only [va_at', va_ne', va_up_up]; exact ha) (fun _ => by simp (disch := omega) only [va_at', va_ne', va_up_up]; rw [Nat.sub_self]; rfl)
  · intro hin
    refine z_if_eq G 135 dX10_advances_30 (by decide) (fun _ => ?_) (fun c => absurd c (by decide))
    have hD : tkD tp a = a := by have hh : ¬ a < tkD tp a := fun z => hin (t3 a (Nat.le_refl _) z); omega
    have hbyte := hP.by a
    refine z_aload_n G dX10_advances_135 rfl ?_
    refine z_iload_n G dX10_advances_136 rfl ?_
    refine z_if_ge G 144 dX10_advances_137 (by decide) (fun b137 => ?_) (fun b137 => ?_)
    · have hge : ¬ tp a = -1 := fun z => by rw [z] at b137; exact absurd b137 (by decide)
      refine z_iload_n G dX10_advances_144 rfl ?_
      refine z_bipush G (v := 97) dX10_advances_145 (by decide) ?_
      refine z_bipush G (v := 122) dX10_advances_147 (by decide) ?_
      refine z_S G lk_X10_62 dX10_advances_149 [_, _, _] rfl rfl rfl (Nat.le_of_ble_eq_true rfl) ⟨Nat.le_refl _, Nat.le_refl _⟩ ?_
      refine k_X10_in ?_ ?_
      · intro hlt
        refine z_if_eq G 159 dX10_advances_152 (by decide) (fun c => absurd c (by decide)) (fun _ => ?_)
        refine z_iconst G (v := 1) dX10_advances_155 (by decide) ?_
        refine z_goto G 180 dX10_advances_156 (by decide) ?_
        refine z_putI G fl_X10_104 ft_10_11 rfl rfl rfl dX10_advances_180 (by assumption) ?_
        refine z_aload_n G dX10_advances_183 rfl ?_
        refine z_dup G dX10_advances_184 rfl ?_
        try simp (disch := omega) only [va_at', va_ne', va_up_up]
        refine z_getI G fl_X10_92 rfl dX10_advances_185 (by assumption) ?_
        try simp (disch := omega) only [va_at', va_ne', va_up_up]
        refine z_aload_n G dX10_advances_188 rfl ?_
        try simp (disch := omega) only [va_at', va_ne', va_up_up]
        refine z_getI G fl_X10_104 rfl dX10_advances_189 (by assumption) ?_
        try simp (disch := omega) only [va_at', va_ne', va_up_up]
        refine z_if_ne G 199 dX10_advances_192 (by decide) (fun _ => ?_) (fun c => absurd c (by decide))
        refine z_iconst G (v := 1) dX10_advances_199 (by decide) ?_
        rw [ha]
        refine z_iadd G dX10_advances_200 ?_
        refine z_putI G fl_X10_92 ft_10_9 rfl rfl rfl dX10_advances_201 (by assumption) ?_
        try simp (disch := omega) only [va_at', va_ne', va_up_up]
        exact z_vret G hq dX10_advances_204 (h _ (fun k hk => va_ne' hk) (fun j hj => by simp (disch := omega) only [va_at', va_ne', va_up_up]) ⟨by simp (disch := omega) only [va_at', va_ne', va_up_up], by simp (disch := omega) only [va_at', va_ne', va_up_up]; rw [tkT_D hD]; exact (by rw [refT_1.mpr hlt]), fun z => by rw [tkT_D hD] at z; exact absurd z hb2.1, fun _ _ => by simp (disch := omega) only [va_at', va_ne', va_up_up]; exact (tkT_D hD).symm, fun z => by simp (disch := omega) only [va_at', va_ne', va_up_up]; rw [tkE_D hD]; exact iN_add a 1⟩)
      · intro hlt
        refine z_if_eq G 159 dX10_advances_152 (by decide) (fun _ => ?_) (fun c => absurd c (by decide))
        refine z_iload_n G dX10_advances_159 rfl ?_
        refine z_bipush G (v := 44) dX10_advances_160 (by decide) ?_
        refine z_icmp_ne G 169 dX10_advances_162 (by decide) (fun b162 => ?_) (fun b162 => ?_)
        · refine z_iload_n G dX10_advances_169 rfl ?_
          refine z_bipush G (v := 59) dX10_advances_170 (by decide) ?_
          refine z_icmp_ne G 179 dX10_advances_172 (by decide) (fun b172 => ?_) (fun b172 => ?_)
          · refine z_iconst G (v := 5) dX10_advances_179 (by decide) ?_
            refine z_putI G fl_X10_104 ft_10_11 rfl rfl rfl dX10_advances_180 (by assumption) ?_
            refine z_aload_n G dX10_advances_183 rfl ?_
            refine z_dup G dX10_advances_184 rfl ?_
            try simp (disch := omega) only [va_at', va_ne', va_up_up]
            refine z_getI G fl_X10_92 rfl dX10_advances_185 (by assumption) ?_
            try simp (disch := omega) only [va_at', va_ne', va_up_up]
            refine z_aload_n G dX10_advances_188 rfl ?_
            try simp (disch := omega) only [va_at', va_ne', va_up_up]
            refine z_getI G fl_X10_104 rfl dX10_advances_189 (by assumption) ?_
            try simp (disch := omega) only [va_at', va_ne', va_up_up]
            refine z_if_ne G 199 dX10_advances_192 (by decide) (fun _ => ?_) (fun c => absurd c (by decide))
            refine z_iconst G (v := 1) dX10_advances_199 (by decide) ?_
            rw [ha]
            refine z_iadd G dX10_advances_200 ?_
            refine z_putI G fl_X10_92 ft_10_9 rfl rfl rfl dX10_advances_201 (by assumption) ?_
            try simp (disch := omega) only [va_at', va_ne', va_up_up]
            exact z_vret G hq dX10_advances_204 (h _ (fun k hk => va_ne' hk) (fun j hj => by simp (disch := omega) only [va_at', va_ne', va_up_up]) ⟨by simp (disch := omega) only [va_at', va_ne', va_up_up], by simp (disch := omega) only [va_at', va_ne', va_up_up]; rw [tkT_D hD]; exact (by unfold refT; rw [if_neg hb2.1, if_neg hb2.2, if_neg hge, if_neg hlt, if_neg b162, if_neg b172]), fun z => by rw [tkT_D hD] at z; exact absurd z hb2.1, fun _ _ => by simp (disch := omega) only [va_at', va_ne', va_up_up]; exact (tkT_D hD).symm, fun z => by simp (disch := omega) only [va_at', va_ne', va_up_up]; rw [tkE_D hD]; exact iN_add a 1⟩)
          · refine z_iconst G (v := 4) dX10_advances_175 (by decide) ?_
            refine z_goto G 180 dX10_advances_176 (by decide) ?_
            refine z_putI G fl_X10_104 ft_10_11 rfl rfl rfl dX10_advances_180 (by assumption) ?_
            refine z_aload_n G dX10_advances_183 rfl ?_
            refine z_dup G dX10_advances_184 rfl ?_
            try simp (disch := omega) only [va_at', va_ne', va_up_up]
            refine z_getI G fl_X10_92 rfl dX10_advances_185 (by assumption) ?_
            try simp (disch := omega) only [va_at', va_ne', va_up_up]
            refine z_aload_n G dX10_advances_188 rfl ?_
            try simp (disch := omega) only [va_at', va_ne', va_up_up]
            refine z_getI G fl_X10_104 rfl dX10_advances_189 (by assumption) ?_
            try simp (disch := omega) only [va_at', va_ne', va_up_up]
            refine z_if_ne G 199 dX10_advances_192 (by decide) (fun _ => ?_) (fun c => absurd c (by decide))
            refine z_iconst G (v := 1) dX10_advances_199 (by decide) ?_
            rw [ha]
            refine z_iadd G dX10_advances_200 ?_
            refine z_putI G fl_X10_92 ft_10_9 rfl rfl rfl dX10_advances_201 (by assumption) ?_
            try simp (disch := omega) only [va_at', va_ne', va_up_up]
            exact z_vret G hq dX10_advances_204 (h _ (fun k hk => va_ne' hk) (fun j hj => by simp (disch := omega) only [va_at', va_ne', va_up_up]) ⟨by simp (disch := omega) only [va_at', va_ne', va_up_up], by simp (disch := omega) only [va_at', va_ne', va_up_up]; rw [tkT_D hD]; exact (by rw [b172]; decide), fun z => by rw [tkT_D hD] at z; exact absurd z hb2.1, fun _ _ => by simp (disch := omega) only [va_at', va_ne', va_up_up]; exact (tkT_D hD).symm, fun z => by simp (disch := omega) only [va_at', va_ne', va_up_up]; rw [tkE_D hD]; exact iN_add a 1⟩)
        · refine z_iconst G (v := 3) dX10_advances_165 (by decide) ?_
          refine z_goto G 180 dX10_advances_166 (by decide) ?_
          refine z_putI G fl_X10_104 ft_10_11 rfl rfl rfl dX10_advances_180 (by assumption) ?_
          refine z_aload_n G dX10_advances_183 rfl ?_
          refine z_dup G dX10_advances_184 rfl ?_
          try simp (disch := omega) only [va_at', va_ne', va_up_up]
          refine z_getI G fl_X10_92 rfl dX10_advances_185 (by assumption) ?_
          try simp (disch := omega) only [va_at', va_ne', va_up_up]
          refine z_aload_n G dX10_advances_188 rfl ?_
          try simp (disch := omega) only [va_at', va_ne', va_up_up]
          refine z_getI G fl_X10_104 rfl dX10_advances_189 (by assumption) ?_
          try simp (disch := omega) only [va_at', va_ne', va_up_up]
          refine z_if_ne G 199 dX10_advances_192 (by decide) (fun _ => ?_) (fun c => absurd c (by decide))
          refine z_iconst G (v := 1) dX10_advances_199 (by decide) ?_
          rw [ha]
          refine z_iadd G dX10_advances_200 ?_
          refine z_putI G fl_X10_92 ft_10_9 rfl rfl rfl dX10_advances_201 (by assumption) ?_
          try simp (disch := omega) only [va_at', va_ne', va_up_up]
          exact z_vret G hq dX10_advances_204 (h _ (fun k hk => va_ne' hk) (fun j hj => by simp (disch := omega) only [va_at', va_ne', va_up_up]) ⟨by simp (disch := omega) only [va_at', va_ne', va_up_up], by simp (disch := omega) only [va_at', va_ne', va_up_up]; rw [tkT_D hD]; exact (by rw [b162]; decide), fun z => by rw [tkT_D hD] at z; exact absurd z hb2.1, fun _ _ => by simp (disch := omega) only [va_at', va_ne', va_up_up]; exact (tkT_D hD).symm, fun z => by simp (disch := omega) only [va_at', va_ne', va_up_up]; rw [tkE_D hD]; exact iN_add a 1⟩)
    · have hm1 : tp a = -1 := hbyte.elim id (fun z => absurd (by simp only [ti_lt, ti_le, Int32.reduceToInt]; omega) b137)
      refine z_iconst G (v := 0) dX10_advances_140 (by decide) ?_
      refine z_goto G 180 dX10_advances_141 (by decide) ?_
      refine z_putI G fl_X10_104 ft_10_11 rfl rfl rfl dX10_advances_180 (by assumption) ?_
      refine z_aload_n G dX10_advances_183 rfl ?_
      refine z_dup G dX10_advances_184 rfl ?_
      try simp (disch := omega) only [va_at', va_ne', va_up_up]
      refine z_getI G fl_X10_92 rfl dX10_advances_185 (by assumption) ?_
      try simp (disch := omega) only [va_at', va_ne', va_up_up]
      refine z_aload_n G dX10_advances_188 rfl ?_
      try simp (disch := omega) only [va_at', va_ne', va_up_up]
      refine z_getI G fl_X10_104 rfl dX10_advances_189 (by assumption) ?_
      try simp (disch := omega) only [va_at', va_ne', va_up_up]
      refine z_if_ne G 199 dX10_advances_192 (by decide) (fun c => absurd c (by decide)) (fun _ => ?_)
      refine z_iconst G (v := 0) dX10_advances_195 (by decide) ?_
      refine z_goto G 200 dX10_advances_196 (by decide) ?_
      rw [ha]
      refine z_iadd G dX10_advances_200 ?_
      refine z_putI G fl_X10_92 ft_10_9 rfl rfl rfl dX10_advances_201 (by assumption) ?_
      try simp (disch := omega) only [va_at', va_ne', va_up_up]
      exact z_vret G hq dX10_advances_204 (h _ (fun k hk => va_ne' hk) (fun j hj => by simp (disch := omega) only [va_at', va_ne', va_up_up]) ⟨by simp (disch := omega) only [va_at', va_ne', va_up_up], by simp (disch := omega) only [va_at', va_ne', va_up_up]; rw [tkT_D hD]; exact (by rw [hm1]; rfl), fun z => by rw [tkT_D hD] at z; exact absurd z hb2.1, fun _ _ => by simp (disch := omega) only [va_at', va_ne', va_up_up]; exact (tkT_D hD).symm, fun z => absurd ((tkT_D hD).trans hm1) z⟩)
set_option maxHeartbeats 1000000 in
set_option maxRecDepth 20000 in
theorem k_X10_isWell1 {E : pmE} {d : Nat} {S : pmS} {I : pmI} {P : pmP} {R : Option Value → pmS → pmI → pmP → Prop} {m : Nat} (hM : MG S P m) (hw : I m 8 = -1) (h : R (some (.int 1)) S I P) : pmX E d 0 0 yX10_isWell [rr E m] S I P R := by
  refine pm_of (by decide) cd_X10_isWell (by decide) (by decide) (Nat.le_of_ble_eq_true rfl) ?_
  intro C G hq
  obtain ⟨g0, ⟨r0, r1, r2, r3, r4, r5, r6, r7, r8, r9, r10, r11, r12, r13, r14⟩, ⟨s1, s2, s3, s4, s5, s6, s7, s8, s9, s10, s11, s12, s13, s14, s15⟩⟩ := id hM
  refine z_aload_n G dX10_isWell_0 rfl ?_
  refine z_getI G fl_X10_107 rfl dX10_isWell_1 (by assumption) ?_
  rw [hw]
  refine z_if_ge G 11 dX10_isWell_4 (by decide) (fun c => absurd c (by decide)) (fun _ => ?_)
  refine z_iconst G (v := 1) dX10_isWell_7 (by decide) ?_
  refine z_goto G 12 dX10_isWell_8 (by decide) ?_
  exact z_zret G hq dX10_isWell_12 rfl (h)
set_option maxHeartbeats 1000000 in
set_option maxRecDepth 20000 in
theorem k_X10_isWell0 {E : pmE} {d : Nat} {S : pmS} {I : pmI} {P : pmP} {R : Option Value → pmS → pmI → pmP → Prop} {m : Nat} (hM : MG S P m) {e : Nat} (he : I m 8 = iN e) (he80 : e < 1000) (h : R (some (.int 0)) S I P) : pmX E d 0 0 yX10_isWell [rr E m] S I P R := by
  refine pm_of (by decide) cd_X10_isWell (by decide) (by decide) (Nat.le_of_ble_eq_true rfl) ?_
  intro C G hq
  obtain ⟨g0, ⟨r0, r1, r2, r3, r4, r5, r6, r7, r8, r9, r10, r11, r12, r13, r14⟩, ⟨s1, s2, s3, s4, s5, s6, s7, s8, s9, s10, s11, s12, s13, s14, s15⟩⟩ := id hM
  refine z_aload_n G dX10_isWell_0 rfl ?_
  refine z_getI G fl_X10_107 rfl dX10_isWell_1 (by assumption) ?_
  rw [he]
  refine z_if_ge G 11 dX10_isWell_4 (by decide) (fun _ => ?_) (fun c => absurd c (fun z => z (by rw [iN_lit, iN_le (by omega) (by omega)]; omega)))
  refine z_iconst G (v := 0) dX10_isWell_11 (by decide) ?_
  exact z_zret G hq dX10_isWell_12 rfl (h)
set_option maxHeartbeats 1000000 in
set_option maxRecDepth 20000 in
theorem k_X10_takes1 {E : pmE} {d : Nat} {S : pmS} {I : pmI} {P : pmP} {R : Option Value → pmS → pmI → pmP → Prop} {m : Nat} (hM : MG S P m) {tp : Nat → Int32} (hC : TM I m tp) {a : Nat} (hT : MT I m tp a) (hw : I m 8 = -1) (hne : ¬ tkT tp a = -1) {kind : Int32} (h : ∀ J, OKm I J m → MT J m tp (tkE tp a) → J (m + 7) = I (m + 7) → R (some (.int (I m 12))) S J P) : pmX E (d + 2) 0 0 yX10_takes [rr E m, .int 1, .int kind] S I P R := by
  refine pm_of (by decide) cd_X10_takes (by decide) (by decide) (Nat.le_of_ble_eq_true rfl) ?_
  intro C G hq
  obtain ⟨g0, ⟨r0, r1, r2, r3, r4, r5, r6, r7, r8, r9, r10, r11, r12, r13, r14⟩, ⟨s1, s2, s3, s4, s5, s6, s7, s8, s9, s10, s11, s12, s13, s14, s15⟩⟩ := id hM
  obtain ⟨L, hL, hP, hv⟩ := id hC
  have hL80 := hP.1
  refine z_aload_n G dX10_takes_0 rfl ?_
  refine z_V G lk_X10_110 dX10_takes_1 [] rfl rfl rfl (Nat.le_of_ble_eq_true rfl) ⟨Nat.le_refl _, Nat.le_refl _⟩ (by assumption) ?_
  refine k_X10_isWell1 hM hw ?_
  refine z_if_ne G 9 dX10_takes_4 (by decide) (fun _ => ?_) (fun c => absurd c (by decide))
  refine z_iload_n G dX10_takes_9 rfl ?_
  refine z_if_ne G 28 dX10_takes_10 (by decide) (fun _ => ?_) (fun c => absurd c (by decide))
  refine z_aload_n G dX10_takes_28 rfl ?_
  refine z_getI G fl_X10_101 rfl dX10_takes_29 (by assumption) ?_
  refine z_istore_n G dX10_takes_32 (Nat.le_of_ble_eq_true rfl) rfl ?_
  refine z_aload_n G dX10_takes_33 rfl ?_
  refine z_V G lk_X10_117 dX10_takes_34 [] rfl rfl rfl (Nat.le_of_ble_eq_true rfl) ⟨Nat.le_refl _, Nat.le_refl _⟩ (by assumption) ?_
  refine k_X10_advances hM hC (hT.2.2.2.2 hne) (hP.ne hne) (fun J q1 q2 q3 => ?_)
  refine z_iload_n G dX10_takes_37 rfl ?_
  exact z_iret G hq dX10_takes_38 (h J ⟨⟨fun k z _ => q1 k z, fun j z => q2 j (by omega)⟩, q2 7 (by omega), q2 8 (by omega)⟩ q3 (q1 (m + 7) (by omega)))
set_option maxHeartbeats 1000000 in
set_option maxRecDepth 20000 in
theorem k_X10_takes0 {E : pmE} {d : Nat} {S : pmS} {I : pmI} {P : pmP} {R : Option Value → pmS → pmI → pmP → Prop} {m : Nat} (hM : MG S P m) {tp : Nat → Int32} {a : Nat} (hT : MT I m tp a) (hw : I m 8 = -1) {kind : Int32} (h : ∀ J, BDm I J m (kind, a) → J m 11 = I m 11 → J (m + 7) = I (m + 7) → R (some (.int 0)) S J P) : pmX E (d + 2) 0 0 yX10_takes [rr E m, .int 0, .int kind] S I P R := by
  refine pm_of (by decide) cd_X10_takes (by decide) (by decide) (Nat.le_of_ble_eq_true rfl) ?_
  intro C G hq
  obtain ⟨g0, ⟨r0, r1, r2, r3, r4, r5, r6, r7, r8, r9, r10, r11, r12, r13, r14⟩, ⟨s1, s2, s3, s4, s5, s6, s7, s8, s9, s10, s11, s12, s13, s14, s15⟩⟩ := id hM
  refine z_aload_n G dX10_takes_0 rfl ?_
  refine z_V G lk_X10_110 dX10_takes_1 [] rfl rfl rfl (Nat.le_of_ble_eq_true rfl) ⟨Nat.le_refl _, Nat.le_refl _⟩ (by assumption) ?_
  refine k_X10_isWell1 hM hw ?_
  refine z_if_ne G 9 dX10_takes_4 (by decide) (fun _ => ?_) (fun c => absurd c (by decide))
  refine z_iload_n G dX10_takes_9 rfl ?_
  refine z_if_ne G 28 dX10_takes_10 (by decide) (fun c => absurd c (by decide)) (fun _ => ?_)
  refine z_aload_n G dX10_takes_13 rfl ?_
  refine z_aload_n G dX10_takes_14 rfl ?_
  refine z_getI G fl_X10_95 rfl dX10_takes_15 (by assumption) ?_
  refine z_putI G fl_X10_107 ft_10_8 rfl rfl rfl dX10_takes_18 (by assumption) ?_
  try simp (disch := omega) only [va_at', va_ne', va_up_up]
  refine z_aload_n G dX10_takes_21 rfl ?_
  refine z_iload_n G dX10_takes_22 rfl ?_
  refine z_putI G fl_X10_114 ft_10_7 rfl rfl rfl dX10_takes_23 (by assumption) ?_
  try simp (disch := omega) only [va_at', va_ne', va_up_up]
  refine z_iconst G (v := 0) dX10_takes_26 (by decide) ?_
  exact z_iret G hq dX10_takes_27 (h _ ⟨⟨fun k z _ => va_ne' z, fun j z => by simp (disch := omega) only [va_at', va_ne', va_up_up]⟩, by simp (disch := omega) only [va_at', va_ne', va_up_up], by simp (disch := omega) only [va_at', va_ne', va_up_up]; exact hT.1⟩ (by simp (disch := omega) only [va_at', va_ne', va_up_up]) (va_ne' (by omega)))
set_option maxHeartbeats 1000000 in
set_option maxRecDepth 20000 in
theorem k_X10_takesN {E : pmE} {d : Nat} {S : pmS} {I : pmI} {P : pmP} {R : Option Value → pmS → pmI → pmP → Prop} {m : Nat} (hM : MG S P m) {e0 : Nat} (he : I m 8 = iN e0) (he80 : e0 < 1000) {x kind : Int32} (h : R (some (.int 0)) S I P) : pmX E (d + 2) 0 0 yX10_takes [rr E m, .int x, .int kind] S I P R := by
  refine pm_of (by decide) cd_X10_takes (by decide) (by decide) (Nat.le_of_ble_eq_true rfl) ?_
  intro C G hq
  obtain ⟨g0, ⟨r0, r1, r2, r3, r4, r5, r6, r7, r8, r9, r10, r11, r12, r13, r14⟩, ⟨s1, s2, s3, s4, s5, s6, s7, s8, s9, s10, s11, s12, s13, s14, s15⟩⟩ := id hM
  refine z_aload_n G dX10_takes_0 rfl ?_
  refine z_V G lk_X10_110 dX10_takes_1 [] rfl rfl rfl (Nat.le_of_ble_eq_true rfl) ⟨Nat.le_refl _, Nat.le_refl _⟩ (by assumption) ?_
  refine k_X10_isWell0 hM he he80 ?_
  refine z_if_ne G 9 dX10_takes_4 (by decide) (fun c => absurd c (by decide)) (fun _ => ?_)
  refine z_iconst G (v := 0) dX10_takes_7 (by decide) ?_
  exact z_iret G hq dX10_takes_8 (h)
set_option maxHeartbeats 1000000 in
set_option maxRecDepth 20000 in
theorem k_X10_figure {E : pmE} {d : Nat} {S : pmS} {I : pmI} {P : pmP} {R : Option Value → pmS → pmI → pmP → Prop} {m : Nat} (hM : MG S P m) {tp : Nat → Int32} (hC : TM I m tp) {a : Nat} (hT : MT I m tp a) (hw : I m 8 = -1) {lo hi : Nat} {x y : Int32} (hx : x = iN lo) (hy : y = iN hi) (hlo : lo < 1000) (hhi : hi < 1000) (h0 : ∀ e, pNum tp lo hi a = .inl e → ∀ J, BDm I J m e → e.2 = a → J (m + 7) = I (m + 7) → R (some (.int 0)) S J P) (h1 : ∀ q, pNum tp lo hi a = .inr q → ∀ J, OKm I J m → MT J m tp q.1 → J (m + 7) = I (m + 7) → R (some (.int (iN q.2))) S J P) : pmX E (d + 3) 0 0 yX10_figure [rr E m, .int x, .int y] S I P R := by
  refine pm_of (by decide) cd_X10_figure (by decide) (by decide) (Nat.le_of_ble_eq_true rfl) ?_
  intro C G hq
  obtain ⟨g0, ⟨r0, r1, r2, r3, r4, r5, r6, r7, r8, r9, r10, r11, r12, r13, r14⟩, ⟨s1, s2, s3, s4, s5, s6, s7, s8, s9, s10, s11, s12, s13, s14, s15⟩⟩ := id hM
  obtain ⟨L, hL, hP, hv⟩ := id hC
  have hL80 := hP.1
  refine z_aload_n G dX10_figure_0 rfl ?_
  refine z_V G lk_X10_110 dX10_figure_1 [] rfl rfl rfl (Nat.le_of_ble_eq_true rfl) ⟨Nat.le_refl _, Nat.le_refl _⟩ (by assumption) ?_
  refine k_X10_isWell1 hM hw ?_
  refine z_if_eq G 22 dX10_figure_4 (by decide) (fun c => absurd c (by decide)) (fun _ => ?_)
  refine z_aload_n G dX10_figure_7 rfl ?_
  refine z_getI G fl_X10_104 rfl dX10_figure_8 (by assumption) ?_
  rw [hT.2.1]
  refine z_iconst G (v := 2) dX10_figure_11 (by decide) ?_
  refine z_icmp_eq G 22 dX10_figure_12 (by decide) (fun b12 => ?_) (fun b12 => ?_)
  · have h2 := rf_num.mp b12
    obtain ⟨n1, n2, n3⟩ := hP.N100 h2
    have hval := hT.2.2.1 h2
    subst hx hy
    refine z_aload_n G dX10_figure_22 rfl ?_
    refine z_aload_n G dX10_figure_23 rfl ?_
    refine z_getI G fl_X10_101 rfl dX10_figure_24 (by assumption) ?_
    refine z_iload_n G dX10_figure_27 rfl ?_
    refine z_iload_n G dX10_figure_28 rfl ?_
    rw [hval]
    refine z_S G lk_X10_62 dX10_figure_29 [_, _, _] rfl rfl rfl (Nat.le_of_ble_eq_true rfl) ⟨Nat.le_refl _, Nat.le_refl _⟩ ?_
    refine k_X10_in ?_ ?_
    · intro hin
      refine z_iconst G (v := 2) dX10_figure_32 (by decide) ?_
      refine z_V G lk_X10_120 dX10_figure_33 [_, _] rfl rfl rfl (Nat.le_of_ble_eq_true rfl) ⟨Nat.le_refl _, Nat.le_refl _⟩ (by assumption) ?_
      refine k_X10_takes1 hM hC hT hw (by rw [h2]; decide) (fun J b1 b2 b3 => ?_)
      exact z_iret G hq dX10_figure_36 (by rw [hval]; exact h1 _ (pNum_r h2 ⟨by have := hin.1; rw [iN_le (by omega) (by omega)] at this; exact this, by have := hin.2; rw [iN_le (by omega) (by omega)] at this; exact this⟩) J b1 b2 b3)
    · intro hin
      refine z_iconst G (v := 2) dX10_figure_32 (by decide) ?_
      refine z_V G lk_X10_120 dX10_figure_33 [_, _] rfl rfl rfl (Nat.le_of_ble_eq_true rfl) ⟨Nat.le_refl _, Nat.le_refl _⟩ (by assumption) ?_
      refine k_X10_takes0 hM hT hw (fun J b1 _ b2 => ?_)
      exact z_iret G hq dX10_figure_36 (h0 _ (pNum_2 h2 (fun z => hin ⟨by rw [iN_le (by omega) (by omega)]; exact z.1, by rw [iN_le (by omega) (by omega)]; exact z.2⟩)) J b1 rfl b2)
  · refine z_aload_n G dX10_figure_15 rfl ?_
    refine z_iconst G (v := 0) dX10_figure_16 (by decide) ?_
    refine z_iconst G (v := 1) dX10_figure_17 (by decide) ?_
    refine z_V G lk_X10_120 dX10_figure_18 [_, _] rfl rfl rfl (Nat.le_of_ble_eq_true rfl) ⟨Nat.le_refl _, Nat.le_refl _⟩ (by assumption) ?_
    refine k_X10_takes0 hM hT hw (fun J b1 _ b2 => ?_)
    exact z_iret G hq dX10_figure_21 (h0 _ (pNum_1 (fun z => b12 (rf_num.mpr z))) J b1 rfl b2)
set_option maxHeartbeats 1000000 in
set_option maxRecDepth 20000 in
theorem k_X10_figureN {E : pmE} {d : Nat} {S : pmS} {I : pmI} {P : pmP} {R : Option Value → pmS → pmI → pmP → Prop} {m : Nat} (hM : MG S P m) {e0 : Nat} (he : I m 8 = iN e0) (he80 : e0 < 1000) {x y : Int32} (h : R (some (.int 0)) S I P) : pmX E (d + 3) 0 0 yX10_figure [rr E m, .int x, .int y] S I P R := by
  refine pm_of (by decide) cd_X10_figure (by decide) (by decide) (Nat.le_of_ble_eq_true rfl) ?_
  intro C G hq
  obtain ⟨g0, ⟨r0, r1, r2, r3, r4, r5, r6, r7, r8, r9, r10, r11, r12, r13, r14⟩, ⟨s1, s2, s3, s4, s5, s6, s7, s8, s9, s10, s11, s12, s13, s14, s15⟩⟩ := id hM
  refine z_aload_n G dX10_figure_0 rfl ?_
  refine z_V G lk_X10_110 dX10_figure_1 [] rfl rfl rfl (Nat.le_of_ble_eq_true rfl) ⟨Nat.le_refl _, Nat.le_refl _⟩ (by assumption) ?_
  refine k_X10_isWell0 hM he he80 ?_
  refine z_if_eq G 22 dX10_figure_4 (by decide) (fun _ => ?_) (fun c => absurd c (by decide))
  refine z_aload_n G dX10_figure_22 rfl ?_
  refine z_aload_n G dX10_figure_23 rfl ?_
  refine z_getI G fl_X10_101 rfl dX10_figure_24 (by assumption) ?_
  refine z_iload_n G dX10_figure_27 rfl ?_
  refine z_iload_n G dX10_figure_28 rfl ?_
  refine z_S G lk_X10_62 dX10_figure_29 [_, _, _] rfl rfl rfl (Nat.le_of_ble_eq_true rfl) ⟨Nat.le_refl _, Nat.le_refl _⟩ ?_
  refine k_X10_in (fun _ => ?_) (fun _ => ?_)
  · refine z_iconst G (v := 2) dX10_figure_32 (by decide) ?_
    refine z_V G lk_X10_120 dX10_figure_33 [_, _] rfl rfl rfl (Nat.le_of_ble_eq_true rfl) ⟨Nat.le_refl _, Nat.le_refl _⟩ (by assumption) ?_
    refine k_X10_takesN hM he he80 ?_
    exact z_iret G hq dX10_figure_36 (h)
  · refine z_iconst G (v := 2) dX10_figure_32 (by decide) ?_
    refine z_V G lk_X10_120 dX10_figure_33 [_, _] rfl rfl rfl (Nat.le_of_ble_eq_true rfl) ⟨Nat.le_refl _, Nat.le_refl _⟩ (by assumption) ?_
    refine k_X10_takesN hM he he80 ?_
    exact z_iret G hq dX10_figure_36 (h)
set_option maxHeartbeats 1000000 in
set_option maxRecDepth 20000 in
theorem k_X10_kindOf {E : pmE} {d : Nat} {S : pmS} {I : pmI} {P : pmP} {R : Option Value → pmS → pmI → pmP → Prop} {x : Int32} (h : R (some (.int (iN (kdOf x)))) S I P) : pmX E d 0 0 yX10_kindOf [.int x] S I P R := by
  refine pm_of (by decide) cd_X10_kindOf (by decide) (by decide) (Nat.le_of_ble_eq_true rfl) ?_
  intro C G hq
  refine z_iload_n G dX10_kindOf_0 rfl ?_
  refine z_bipush G (v := 112) dX10_kindOf_1 (by decide) ?_
  refine z_icmp_ne G 10 dX10_kindOf_3 (by decide) (fun b3 => ?_) (fun b3 => ?_)
  · refine z_iload_n G dX10_kindOf_10 rfl ?_
    refine z_bipush G (v := 115) dX10_kindOf_11 (by decide) ?_
    refine z_icmp_ne G 20 dX10_kindOf_13 (by decide) (fun b13 => ?_) (fun b13 => ?_)
    · refine z_iload_n G dX10_kindOf_20 rfl ?_
      refine z_bipush G (v := 110) dX10_kindOf_21 (by decide) ?_
      refine z_icmp_ne G 30 dX10_kindOf_23 (by decide) (fun b23 => ?_) (fun b23 => ?_)
      · refine z_iload_n G dX10_kindOf_30 rfl ?_
        refine z_bipush G (v := 103) dX10_kindOf_31 (by decide) ?_
        refine z_icmp_ne G 40 dX10_kindOf_33 (by decide) (fun b33 => ?_) (fun b33 => ?_)
        · refine z_iload_n G dX10_kindOf_40 rfl ?_
          refine z_bipush G (v := 107) dX10_kindOf_41 (by decide) ?_
          refine z_icmp_ne G 50 dX10_kindOf_43 (by decide) (fun b43 => ?_) (fun b43 => ?_)
          · refine z_iconst G (v := 0) dX10_kindOf_50 (by decide) ?_
            exact z_iret G hq dX10_kindOf_51 (by unfold kdOf at h; rw [if_neg b3, if_neg b13, if_neg b23, if_neg b33, if_neg b43] at h; exact h)
          · refine z_iconst G (v := 5) dX10_kindOf_46 (by decide) ?_
            refine z_goto G 51 dX10_kindOf_47 (by decide) ?_
            exact z_iret G hq dX10_kindOf_51 (by unfold kdOf at h; rw [if_neg b3, if_neg b13, if_neg b23, if_neg b33, if_pos b43] at h; exact h)
        · refine z_iconst G (v := 4) dX10_kindOf_36 (by decide) ?_
          refine z_goto G 51 dX10_kindOf_37 (by decide) ?_
          exact z_iret G hq dX10_kindOf_51 (by unfold kdOf at h; rw [if_neg b3, if_neg b13, if_neg b23, if_pos b33] at h; exact h)
      · refine z_iconst G (v := 3) dX10_kindOf_26 (by decide) ?_
        refine z_goto G 51 dX10_kindOf_27 (by decide) ?_
        exact z_iret G hq dX10_kindOf_51 (by unfold kdOf at h; rw [if_neg b3, if_neg b13, if_pos b23] at h; exact h)
    · refine z_iconst G (v := 2) dX10_kindOf_16 (by decide) ?_
      refine z_goto G 51 dX10_kindOf_17 (by decide) ?_
      exact z_iret G hq dX10_kindOf_51 (by unfold kdOf at h; rw [if_neg b3, if_pos b13] at h; exact h)
  · refine z_iconst G (v := 1) dX10_kindOf_6 (by decide) ?_
    refine z_goto G 51 dX10_kindOf_7 (by decide) ?_
    exact z_iret G hq dX10_kindOf_51 (by unfold kdOf at h; rw [if_pos b3] at h; exact h)
set_option maxHeartbeats 1000000 in
set_option maxRecDepth 20000 in
theorem k_X10_mustN {E : pmE} {d : Nat} {S : pmS} {I : pmI} {P : pmP} {R : Option Value → pmS → pmI → pmP → Prop} {m : Nat} (hM : MG S P m) {e0 : Nat} (he : I m 8 = iN e0) (he80 : e0 < 1000) {x : Int32} (h : R none S I P) : pmX E (d + 3) 0 0 yX10_must [rr E m, .int x] S I P R := by
  refine pm_of (by decide) cd_X10_must (by decide) (by decide) (Nat.le_of_ble_eq_true rfl) ?_
  intro C G hq
  obtain ⟨g0, ⟨r0, r1, r2, r3, r4, r5, r6, r7, r8, r9, r10, r11, r12, r13, r14⟩, ⟨s1, s2, s3, s4, s5, s6, s7, s8, s9, s10, s11, s12, s13, s14, s15⟩⟩ := id hM
  refine z_aload_n G dX10_must_0 rfl ?_
  refine z_V G lk_X10_110 dX10_must_1 [] rfl rfl rfl (Nat.le_of_ble_eq_true rfl) ⟨Nat.le_refl _, Nat.le_refl _⟩ (by assumption) ?_
  refine k_X10_isWell0 hM he he80 ?_
  refine z_if_eq G 18 dX10_must_4 (by decide) (fun _ => ?_) (fun c => absurd c (by decide))
  exact z_vret G hq dX10_must_18 (h)
set_option maxHeartbeats 1000000 in
set_option maxRecDepth 20000 in
theorem k_X10_must1 {E : pmE} {d : Nat} {S : pmS} {I : pmI} {P : pmP} {R : Option Value → pmS → pmI → pmP → Prop} {m : Nat} (hM : MG S P m) (hw : I m 8 = -1) (h : R none S I P) : pmX E (d + 3) 0 0 yX10_must [rr E m, .int 1] S I P R := by
  refine pm_of (by decide) cd_X10_must (by decide) (by decide) (Nat.le_of_ble_eq_true rfl) ?_
  intro C G hq
  obtain ⟨g0, ⟨r0, r1, r2, r3, r4, r5, r6, r7, r8, r9, r10, r11, r12, r13, r14⟩, ⟨s1, s2, s3, s4, s5, s6, s7, s8, s9, s10, s11, s12, s13, s14, s15⟩⟩ := id hM
  refine z_aload_n G dX10_must_0 rfl ?_
  refine z_V G lk_X10_110 dX10_must_1 [] rfl rfl rfl (Nat.le_of_ble_eq_true rfl) ⟨Nat.le_refl _, Nat.le_refl _⟩ (by assumption) ?_
  refine k_X10_isWell1 hM hw ?_
  refine z_if_eq G 18 dX10_must_4 (by decide) (fun c => absurd c (by decide)) (fun _ => ?_)
  refine z_iload_n G dX10_must_7 rfl ?_
  refine z_if_ne G 18 dX10_must_8 (by decide) (fun _ => ?_) (fun c => absurd c (by decide))
  exact z_vret G hq dX10_must_18 (h)
set_option maxHeartbeats 1000000 in
set_option maxRecDepth 20000 in
theorem k_X10_must0 {E : pmE} {d : Nat} {S : pmS} {I : pmI} {P : pmP} {R : Option Value → pmS → pmI → pmP → Prop} {m : Nat} (hM : MG S P m) {tp : Nat → Int32} {a : Nat} (hT : MT I m tp a) (hw : I m 8 = -1) (h : ∀ J, BDm I J m (1, a) → R none S J P) : pmX E (d + 3) 0 0 yX10_must [rr E m, .int 0] S I P R := by
  refine pm_of (by decide) cd_X10_must (by decide) (by decide) (Nat.le_of_ble_eq_true rfl) ?_
  intro C G hq
  obtain ⟨g0, ⟨r0, r1, r2, r3, r4, r5, r6, r7, r8, r9, r10, r11, r12, r13, r14⟩, ⟨s1, s2, s3, s4, s5, s6, s7, s8, s9, s10, s11, s12, s13, s14, s15⟩⟩ := id hM
  refine z_aload_n G dX10_must_0 rfl ?_
  refine z_V G lk_X10_110 dX10_must_1 [] rfl rfl rfl (Nat.le_of_ble_eq_true rfl) ⟨Nat.le_refl _, Nat.le_refl _⟩ (by assumption) ?_
  refine k_X10_isWell1 hM hw ?_
  refine z_if_eq G 18 dX10_must_4 (by decide) (fun c => absurd c (by decide)) (fun _ => ?_)
  refine z_iload_n G dX10_must_7 rfl ?_
  refine z_if_ne G 18 dX10_must_8 (by decide) (fun c => absurd c (by decide)) (fun _ => ?_)
  refine z_aload_n G dX10_must_11 rfl ?_
  refine z_iconst G (v := 0) dX10_must_12 (by decide) ?_
  refine z_iconst G (v := 1) dX10_must_13 (by decide) ?_
  refine z_V G lk_X10_120 dX10_must_14 [_, _] rfl rfl rfl (Nat.le_of_ble_eq_true rfl) ⟨Nat.le_refl _, Nat.le_refl _⟩ (by assumption) ?_
  refine k_X10_takes0 hM hT hw (fun J b1 _ b2 => ?_)
  refine z_pop G dX10_must_17 rfl ?_
  exact z_vret G hq dX10_must_18 (h J b1)
