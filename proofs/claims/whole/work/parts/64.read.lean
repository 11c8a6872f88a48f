/-! the class's reader -/
/-- what reading may change: the reader's own numbers, and its cells below lo -/
def KP (I J : pmI) (lo : Nat) : Prop := (∀ k, k < 2 ∨ lo ≤ k → J k = I k) ∧ J 3 = I 3 ∧ J 2 3 = I 2 3 ∧ J 2 4 = I 2 4
/-- a fault was met -/
def FL (I J : pmI) (e : Int32 × Nat) : Prop := (∀ k, k < 2 ∨ 27 ≤ k → J k = I k) ∧ J 2 4 = e.1 ∧ J 2 5 = iN e.2
/-- the token at a comes next -/
def CT (I : pmI) (tp : Nat → Int32) (a : Nat) : Prop := I 2 6 = iN a ∧ I 2 7 = tkT tp a ∧ (tkT tp a = -2 → I 2 8 = iN (tkN tp a)) ∧ I 2 9 = iN (tkE tp a)
def TC (I : pmI) (tp : Nat → Int32) : Prop := ∃ L : Nat, (I 2 3).toInt = (L : Int) ∧ TP tp L ∧ ∀ i, i < L → I 3 i = tp i
theorem KP.rf {I : pmI} {l : Nat} : KP I I l := ⟨fun _ _ => rfl, rfl, rfl, rfl⟩
theorem KP.tr {I J K : pmI} {l : Nat} (h : KP I J l) (h2 : KP J K l) : KP I K l := ⟨fun k hk => (h2.1 k hk).trans (h.1 k hk), h2.2.1.trans h.2.1, h2.2.2.1.trans h.2.2.1, h2.2.2.2.trans h.2.2.2⟩
theorem KP.mono {I J : pmI} {l l' : Nat} (h : KP I J l) (hl : l ≤ l') : KP I J l' := ⟨fun k hk => h.1 k (by omega), h.2⟩
theorem KP.fl {I J K : pmI} {l : Nat} {e : Int32 × Nat} (h : KP I J l) (hl : l ≤ 27) (h2 : FL J K e) : FL I K e := ⟨fun k hk => (h2.1 k hk).trans (h.1 k (by omega)), h2.2⟩
theorem TC.kp {I J : pmI} {tp : Nat → Int32} {l : Nat} (h : TC I tp) (hk : KP I J l) : TC J tp := by
  obtain ⟨L, h1, h2, h3⟩ := h
  exact ⟨L, by rw [hk.2.2.1]; exact h1, h2, fun i hi => by rw [hk.2.1]; exact h3 i hi⟩
theorem CT.congr {I J : pmI} {tp : Nat → Int32} {a : Nat} (h : CT I tp a) (e : J 2 = I 2) : CT J tp a := by
  unfold CT at h ⊢; rw [e]; exact h
theorem pv_step {tp : Nat → Int32} {a k : Nat} {v : Int32} (hk : a ≤ k) (hk2 : k + 1 ≤ a + 2) (hv : v = iN (pvN tp a (k - a))) (hd0 : isD (tp a)) (hd : isD (tp k)) : v * 10 + tp k - 48 - (v * 10 + tp k - 48) / 100 * 100 = iN (pvN tp a (k + 1 - a)) := by
  obtain ⟨b, b1, b2, b3, b4⟩ := isD_N hd0
  obtain ⟨c, c1, c2, c3, c4⟩ := isD_N hd
  have hc : k = a ∨ k = a + 1 := by omega
  rcases hc with rfl | rfl
  · rw [Nat.sub_self] at hv
    rw [show k + 1 - k = 1 by omega]
    have e : v * 10 + tp k - 48 = iN (b - 48) := by
      rw [hv, iN_of b1]; show iN 0 * iN 10 + iN b - iN 48 = _
      rw [iN_mul, iN_add, iN_sub (by omega)]; congr 1; omega
    rw [e]
    show _ = iN (tn (tp k) - 48)
    have := iN_rem (a := b - 48) (b := 100) (by omega) (by omega)
    rw [b4]
    rw [show (100 : Int32) = iN 100 from rfl, this]; congr 1; omega
  · rw [show a + 1 - a = 1 by omega] at hv
    rw [show a + 1 + 1 - a = 2 by omega]
    have e : v * 10 + tp (a + 1) - 48 = iN (10 * (b - 48) + (c - 48)) := by
      rw [hv, iN_of c1]; show iN (tn (tp a) - 48) * iN 10 + iN c - iN 48 = _
      rw [b4, iN_mul, iN_add, iN_sub (by omega)]; congr 1; omega
    rw [e]
    show _ = iN (10 * (tn (tp a) - 48) + (tn (tp (a + 1)) - 48))
    have := iN_rem (a := 10 * (b - 48) + (c - 48)) (b := 100) (by omega) (by omega)
    rw [b4, c4]
    rw [show (100 : Int32) = iN 100 from rfl, this]; congr 1; omega
theorem pv_stepM {tp : Nat → Int32} {a k : Nat} {v : Int32} (hk : a ≤ k) (hk2 : k + 1 ≤ a + 2) (hv : v = iN (pvN tp a (k - a))) (hd0 : isD (tp a)) (hd : isD (tp k)) : 10 * v + tp k - 48 = iN (pvN tp a (k + 1 - a)) := by
  obtain ⟨b, b1, b2, b3, b4⟩ := isD_N hd0
  obtain ⟨c, c1, c2, c3, c4⟩ := isD_N hd
  have hc : k = a ∨ k = a + 1 := by omega
  rcases hc with rfl | rfl
  · rw [Nat.sub_self] at hv
    rw [show k + 1 - k = 1 by omega, hv, iN_of b1]; show iN 10 * iN 0 + iN b - iN 48 = iN (tn (tp k) - 48)
    rw [b4, iN_mul, iN_add, iN_sub (by omega)]; congr 1; omega
  · rw [show a + 1 - a = 1 by omega] at hv
    rw [show a + 1 + 1 - a = 2 by omega, hv, iN_of c1]; show iN 10 * iN (tn (tp a) - 48) + iN c - iN 48 = iN (10 * (tn (tp a) - 48) + (tn (tp (a + 1)) - 48))
    rw [b4, c4, iN_mul, iN_add, iN_sub (by omega)]; congr 1; omega
theorem tkT_D {tp : Nat → Int32} {a : Nat} (h : tkD tp a = a) : tkT tp a = tp a := by unfold tkT; rw [if_pos h]
theorem tkT_2 {tp : Nat → Int32} {a : Nat} (h : ¬ tkD tp a = a) (h2 : tkD tp a ≤ a + 2) : tkT tp a = -2 := by unfold tkT; rw [if_neg h, if_pos h2]
theorem tkT_3 {tp : Nat → Int32} {a : Nat} (h : ¬ tkD tp a = a) (h2 : ¬ tkD tp a ≤ a + 2) : tkT tp a = -3 := by unfold tkT; rw [if_neg h, if_neg h2]
theorem tkE_D {tp : Nat → Int32} {a : Nat} (h : tkD tp a = a) : tkE tp a = a + 1 := by unfold tkE; rw [if_pos h]
theorem tkE_n {tp : Nat → Int32} {a : Nat} (h : ¬ tkD tp a = a) : tkE tp a = tkD tp a := by unfold tkE; rw [if_neg h]
theorem TP.b2 {tp : Nat → Int32} {L : Nat} (h : TP tp L) (a : Nat) : ¬ tp a = -2 ∧ ¬ tp a = -3 := by
  by_cases hL : a < L
  · obtain ⟨b, hb, _⟩ := h.2.1 a hL
    refine ⟨fun e => ?_, fun e => ?_⟩
    · rw [e, show ((-2 : Int32)).toInt = -2 from by decide] at hb; omega
    · rw [e, show ((-3 : Int32)).toInt = -3 from by decide] at hb; omega
  · rw [h.2.2 a (by omega)]; decide
theorem pTake_l {tp : Nat → Int32} {c : Int32} {a : Nat} (h : ¬ tkT tp a = c) : pTake tp c a = .inl (1, a) := by unfold pTake; rw [if_neg h]
theorem pTake_r {tp : Nat → Int32} {c : Int32} {a : Nat} (h : tkT tp a = c) : pTake tp c a = .inr (tkE tp a) := by unfold pTake; rw [if_pos h]
theorem pNum_1 {tp : Nat → Int32} {lo hi a : Nat} (h : ¬ tkT tp a = -2) : pNum tp lo hi a = .inl (1, a) := by unfold pNum; rw [if_neg h]
theorem pNum_2 {tp : Nat → Int32} {lo hi a : Nat} (h : tkT tp a = -2) (h2 : ¬ (lo ≤ tkN tp a ∧ tkN tp a ≤ hi)) : pNum tp lo hi a = .inl (2, a) := by unfold pNum; rw [if_pos h, if_neg h2]
theorem pNum_r {tp : Nat → Int32} {lo hi a : Nat} (h : tkT tp a = -2) (h2 : lo ≤ tkN tp a ∧ tkN tp a ≤ hi) : pNum tp lo hi a = .inr (tkE tp a, tkN tp a) := by unfold pNum; rw [if_pos h, if_pos h2]
set_option maxHeartbeats 1000000 in
set_option maxRecDepth 20000 in
theorem k_X5_byteAt {E : pmE} {d : Nat} {S : pmS} {I : pmI} {P : pmP} {R : Option Value → pmS → pmI → pmP → Prop} (hR : RdG S P) {tp : Nat → Int32} {L : Nat} (hL : (I 2 3).toInt = (L : Int)) (hP : TP tp L) (hv : ∀ i, i < L → I 3 i = tp i) {k : Nat} {x : Int32} (hx : x.toInt = (k : Int)) (h : R (some (.int (tp k))) S I P) : pmX E d 0 0 yX5_byteAt [rr E 2, .int x] S I P R := by
  refine pm_of (by decide) cd_X5_byteAt (by decide) (by decide) (Nat.le_of_ble_eq_true rfl) ?_
  intro C G hq
  obtain ⟨c1, c2, c3, c4, c5, c6, c7⟩ := id hR
  refine z_iload_n G dX5_byteAt_0 rfl ?_
  refine z_if_lt G 27 dX5_byteAt_1 (by decide) (fun c => absurd c (by simp only [ti_lt, ti_le, Int32.reduceToInt, hx]; omega)) (fun _ => ?_)
  refine z_iload_n G dX5_byteAt_4 rfl ?_
  refine z_aload_n G dX5_byteAt_5 rfl ?_
  refine z_getI G fl_X5_29 rfl dX5_byteAt_6 (by assumption) ?_
  refine z_icmp_ge G 27 dX5_byteAt_9 (by decide) (fun b9 => ?_) (fun b9 => ?_)
  · refine z_iconst G (v := -1) dX5_byteAt_27 (by decide) ?_
    exact z_iret G hq dX5_byteAt_28 (by have e : tp k = -1 := hP.2.2 k (by simp only [ti_lt, ti_le, Int32.reduceToInt, hx, hL] at b9; omega); rw [e] at h; exact h)
  · have hkL : k < L := by simp only [ti_lt, ti_le, Int32.reduceToInt, hx, hL] at b9; omega
    have hL80 := hP.1
    refine z_iload_n G dX5_byteAt_12 rfl ?_
    refine z_bipush G (v := 80) dX5_byteAt_13 (by decide) ?_
    refine z_icmp_ge G 27 dX5_byteAt_15 (by decide) (fun c => absurd c (by simp only [ti_lt, ti_le, Int32.reduceToInt, hx]; omega)) (fun _ => ?_)
    refine z_aload_n G dX5_byteAt_18 rfl ?_
    refine z_getR G fl_X5_9 rfl dX5_byteAt_19 (by assumption) (by assumption) ?_
    refine z_iload_n G dX5_byteAt_22 rfl ?_
    refine z_iald G (k) dX5_byteAt_23 (by assumption) (hx) (by omega) ?_
    refine z_goto G 28 dX5_byteAt_24 (by decide) ?_
    exact z_iret G hq dX5_byteAt_28 (by rw [← hv k hkL] at h; exact h)
set_option maxHeartbeats 1000000 in
set_option maxRecDepth 20000 in
theorem k_X5_isFigure {E : pmE} {d : Nat} {S : pmS} {I : pmI} {P : pmP} {R : Option Value → pmS → pmI → pmP → Prop} {x : Int32} (h1 : isD x → R (some (.int 1)) S I P) (h0 : ¬ isD x → R (some (.int 0)) S I P) : pmX E d 0 0 yX5_isFigure [.int x] S I P R := by
  refine pm_of (by decide) cd_X5_isFigure (by decide) (by decide) (Nat.le_of_ble_eq_true rfl) ?_
  intro C G hq
  refine z_iload_n G dX5_isFigure_0 rfl ?_
  refine z_bipush G (v := 48) dX5_isFigure_1 (by decide) ?_
  refine z_icmp_lt G 16 dX5_isFigure_3 (by decide) (fun b3 => ?_) (fun b3 => ?_)
  · refine z_iconst G (v := 0) dX5_isFigure_16 (by decide) ?_
    exact z_zret G hq dX5_isFigure_17 rfl (h0 (fun q => by have := q.1; simp only [ti_lt, ti_le, Int32.reduceToInt] at *; omega))
  · refine z_iload_n G dX5_isFigure_6 rfl ?_
    refine z_bipush G (v := 57) dX5_isFigure_7 (by decide) ?_
    refine z_icmp_gt G 16 dX5_isFigure_9 (by decide) (fun b9 => ?_) (fun b9 => ?_)
    · refine z_iconst G (v := 0) dX5_isFigure_16 (by decide) ?_
      exact z_zret G hq dX5_isFigure_17 rfl (h0 (fun q => by have := q.2; simp only [ti_lt, ti_le, Int32.reduceToInt] at *; omega))
    · refine z_iconst G (v := 1) dX5_isFigure_12 (by decide) ?_
      refine z_goto G 17 dX5_isFigure_13 (by decide) ?_
      exact z_zret G hq dX5_isFigure_17 rfl (h1 ⟨by simp only [ti_lt, ti_le, Int32.reduceToInt] at *; omega, by simp only [ti_lt, ti_le, Int32.reduceToInt] at *; omega⟩)
set_option maxHeartbeats 1000000 in
set_option maxRecDepth 20000 in
theorem k_X5_advance {E : pmE} {d : Nat} {S : pmS} {I : pmI} {P : pmP} {R : Option Value → pmS → pmI → pmP → Prop} (hR : RdG S P) {tp : Nat → Int32} {a : Nat} (hC : TC I tp) (ha : I 2 9 = iN a) (ha80 : a ≤ 80) (h : ∀ J, KP I J 4 → J 2 5 = I 2 5 → J 2 10 = I 2 10 → CT J tp a → R none S J P) : pmX E (d + 1) 0 0 yX5_advance [rr E 2] S I P R := by
  refine pm_of (by decide) cd_X5_advance (by decide) (by decide) (Nat.le_of_ble_eq_true rfl) ?_
  intro C G hq
  obtain ⟨c1, c2, c3, c4, c5, c6, c7⟩ := id hR
  obtain ⟨L, hL, hP, hv⟩ := id hC
  obtain ⟨t1, t2, t3, t4, t5⟩ := hP.D a
  have hL80 := hP.1
  have fin : ∀ (J : pmI) (v : Int32), (∀ k, k ≠ 2 → J k = I k) → (∀ j, j < 6 ∨ 9 < j → J 2 j = I 2 j) → J 2 6 = iN a → J 2 9 = iN (tkD tp a) → (tkD tp a ≤ a + 2 → J 2 8 = iN (tkN tp a)) → pmZ E C 77 [some (rr E 2), some (.int v)] [] S J P 0 0 := by
    intro J v f1 f2 e6 e9 e8
    refine z_aload_n G dX5_advance_77 rfl ?_
    refine z_getI G fl_X5_48 rfl dX5_advance_78 (by assumption) ?_
    refine z_aload_n G dX5_advance_81 rfl ?_
    refine z_getI G fl_X5_39 rfl dX5_advance_82 (by assumption) ?_
    rw [e9, e6]
    refine z_icmp_le G 113 dX5_advance_85 (by decide) (fun b85 => ?_) (fun b85 => ?_)
    · have hD : tkD tp a = a := by rw [iN_le (by omega) (by omega)] at b85; omega
      refine z_aload_n G dX5_advance_113 rfl ?_
      refine z_aload_n G dX5_advance_114 rfl ?_
      refine z_aload_n G dX5_advance_115 rfl ?_
      refine z_getI G fl_X5_48 rfl dX5_advance_116 (by assumption) ?_
      rw [e9]
      refine z_V G lk_X5_117 dX5_advance_119 [_] rfl rfl rfl (Nat.le_of_ble_eq_true rfl) ⟨Nat.le_refl _, Nat.le_refl _⟩ (by assumption) ?_
      refine k_X5_byteAt hR (by rw [f2 3 (by omega)]; exact hL) hP (fun i hi => by rw [f1 3 (by omega)]; exact hv i hi) (k := tkD tp a) (iN_ti (by omega)) ?_
      refine z_putI G fl_X5_42 ft_5_7 rfl rfl rfl dX5_advance_122 (by assumption) ?_
      refine z_aload_n G dX5_advance_125 rfl ?_
      refine z_dup G dX5_advance_126 rfl ?_
      try simp (disch := omega) only [va_at', va_ne', va_up_up]
      refine z_getI G fl_X5_48 rfl dX5_advance_127 (by assumption) ?_
      try simp (disch := omega) only [va_at', va_ne', va_up_up]
      refine z_iconst G (v := 1) dX5_advance_130 (by decide) ?_
      refine z_iadd G dX5_advance_131 ?_
      refine z_putI G fl_X5_48 ft_5_9 rfl rfl rfl dX5_advance_132 (by assumption) ?_
      try simp (disch := omega) only [va_at', va_ne', va_up_up]
      exact z_vret G hq dX5_advance_135 (h _ ⟨fun k hk => by rw [va_ne' (by omega)]; exact f1 k (by omega), by rw [va_ne' (by omega)]; exact f1 3 (by omega), by simp (disch := omega) only [va_at', va_ne', va_up_up]; exact f2 3 (by omega), by simp (disch := omega) only [va_at', va_ne', va_up_up]; exact f2 4 (by omega)⟩ (by simp (disch := omega) only [va_at', va_ne', va_up_up]; exact f2 5 (by omega)) (by simp (disch := omega) only [va_at', va_ne', va_up_up]; exact f2 10 (by omega)) ⟨by simp (disch := omega) only [va_at', va_ne', va_up_up]; exact e6, by simp (disch := omega) only [va_at', va_ne', va_up_up]; rw [tkT_D hD, hD], fun z => by rw [tkT_D hD] at z; exact absurd z (hP.b2 a).1, by simp (disch := omega) only [va_at', va_ne', va_up_up]; rw [e9, tkE_D hD, hD]; exact iN_add a 1⟩)
    · have hD : ¬ tkD tp a = a := by rw [iN_le (by omega) (by omega)] at b85; omega
      refine z_aload_n G dX5_advance_88 rfl ?_
      refine z_aload_n G dX5_advance_89 rfl ?_
      refine z_getI G fl_X5_48 rfl dX5_advance_90 (by assumption) ?_
      refine z_aload_n G dX5_advance_93 rfl ?_
      refine z_getI G fl_X5_39 rfl dX5_advance_94 (by assumption) ?_
      refine z_isub G dX5_advance_97 ?_
      rw [e9, e6, iN_sub (by omega)]
      refine z_iconst G (v := 2) dX5_advance_98 (by decide) ?_
      refine z_icmp_gt G 107 dX5_advance_99 (by decide) (fun b99 => ?_) (fun b99 => ?_)
      · have h2 : ¬ tkD tp a ≤ a + 2 := by rw [iN_lit, iN_lt (by omega) (by omega)] at b99; omega
        refine z_bipush G (v := -3) dX5_advance_107 (by decide) ?_
        refine z_putI G fl_X5_42 ft_5_7 rfl rfl rfl dX5_advance_109 (by assumption) ?_
        exact z_vret G hq dX5_advance_112 (h _ ⟨fun k hk => by rw [va_ne' (by omega)]; exact f1 k (by omega), by rw [va_ne' (by omega)]; exact f1 3 (by omega), by simp (disch := omega) only [va_at', va_ne', va_up_up]; exact f2 3 (by omega), by simp (disch := omega) only [va_at', va_ne', va_up_up]; exact f2 4 (by omega)⟩ (by simp (disch := omega) only [va_at', va_ne', va_up_up]; exact f2 5 (by omega)) (by simp (disch := omega) only [va_at', va_ne', va_up_up]; exact f2 10 (by omega)) ⟨by simp (disch := omega) only [va_at', va_ne', va_up_up]; exact e6, by simp (disch := omega) only [va_at', va_ne', va_up_up]; exact (tkT_3 hD h2).symm, fun z => by rw [tkT_3 hD h2] at z; exact absurd z (by decide), by simp (disch := omega) only [va_at', va_ne', va_up_up]; rw [e9, tkE_n hD]⟩)
      · have h2 : tkD tp a ≤ a + 2 := by rw [iN_lit, iN_lt (by omega) (by omega)] at b99; omega
        refine z_bipush G (v := -2) dX5_advance_102 (by decide) ?_
        refine z_goto G 109 dX5_advance_104 (by decide) ?_
        refine z_putI G fl_X5_42 ft_5_7 rfl rfl rfl dX5_advance_109 (by assumption) ?_
        exact z_vret G hq dX5_advance_112 (h _ ⟨fun k hk => by rw [va_ne' (by omega)]; exact f1 k (by omega), by rw [va_ne' (by omega)]; exact f1 3 (by omega), by simp (disch := omega) only [va_at', va_ne', va_up_up]; exact f2 3 (by omega), by simp (disch := omega) only [va_at', va_ne', va_up_up]; exact f2 4 (by omega)⟩ (by simp (disch := omega) only [va_at', va_ne', va_up_up]; exact f2 5 (by omega)) (by simp (disch := omega) only [va_at', va_ne', va_up_up]; exact f2 10 (by omega)) ⟨by simp (disch := omega) only [va_at', va_ne', va_up_up]; exact e6, by simp (disch := omega) only [va_at', va_ne', va_up_up]; exact (tkT_2 hD h2).symm, fun _ => by simp (disch := omega) only [va_at', va_ne', va_up_up]; exact e8 h2, by simp (disch := omega) only [va_at', va_ne', va_up_up]; rw [e9, tkE_n hD]⟩)
  have loop : ∀ (r k : Nat) (u : Int32) (J : pmI), u.toInt = ((k - a : Nat) : Int) → a ≤ k → k + r = tkD tp a → (∀ k, k ≠ 2 → J k = I k) → (∀ j, j < 6 ∨ 9 < j → J 2 j = I 2 j) → J 2 6 = iN a → J 2 9 = iN k → (k ≤ a + 2 → J 2 8 = iN (pvN tp a (k - a))) → pmZ E C 15 [some (rr E 2), some (.int u)] [] S J P 0 0 := by
    intro r
    induction r with
    | zero =>
      intro k u J hu hk hr f1 f2 e6 e9 e8
      obtain rfl : k = tkD tp a := by omega
      have FIN := fin J u f1 f2 e6 e9 e8
      refine z_iload_n G dX5_advance_15 rfl ?_
      refine z_bipush G (v := 80) dX5_advance_16 (by decide) ?_
      refine z_icmp_ge G 77 dX5_advance_18 (by decide) (fun b18 => ?_) (fun b18 => ?_)
      · exact FIN
      · refine z_aload_n G dX5_advance_21 rfl ?_
        refine z_aload_n G dX5_advance_22 rfl ?_
        refine z_getI G fl_X5_48 rfl dX5_advance_23 (by assumption) ?_
        rw [e9]
        refine z_V G lk_X5_117 dX5_advance_26 [_] rfl rfl rfl (Nat.le_of_ble_eq_true rfl) ⟨Nat.le_refl _, Nat.le_refl _⟩ (by assumption) ?_
        refine k_X5_byteAt hR (by rw [f2 3 (by omega)]; exact hL) hP (fun i hi => by rw [f1 3 (by omega)]; exact hv i hi) (k := tkD tp a) (iN_ti (by omega)) ?_
        refine z_S G lk_X5_120 dX5_advance_29 [_] rfl rfl rfl (Nat.le_of_ble_eq_true rfl) ⟨Nat.le_refl _, Nat.le_refl _⟩ ?_
        refine k_X5_isFigure (fun q => absurd q t4) (fun _ => ?_)
        refine z_if_eq G 77 dX5_advance_32 (by decide) (fun _ => ?_) (fun c => absurd c (by decide))
        exact FIN
    | succ r ih =>
      intro k u J hu hk hr f1 f2 e6 e9 e8
      have hlt : k < tkD tp a := by omega
      have hkL := t5 (by omega)
      have hdk := t3 k hk hlt
      refine z_iload_n G dX5_advance_15 rfl ?_
      refine z_bipush G (v := 80) dX5_advance_16 (by decide) ?_
      refine z_icmp_ge G 77 dX5_advance_18 (by decide) (fun c => absurd c (by simp (disch := omega) only [iN_lit, iN_add, iN_sub, iN_mul, iN_an, iN_le, iN_lt, iN_eq, iN_of hu]; omega)) (fun _ => ?_)
      refine z_aload_n G dX5_advance_21 rfl ?_
      refine z_aload_n G dX5_advance_22 rfl ?_
      refine z_getI G fl_X5_48 rfl dX5_advance_23 (by assumption) ?_
      rw [e9]
      refine z_V G lk_X5_117 dX5_advance_26 [_] rfl rfl rfl (Nat.le_of_ble_eq_true rfl) ⟨Nat.le_refl _, Nat.le_refl _⟩ (by assumption) ?_
      refine k_X5_byteAt hR (by rw [f2 3 (by omega)]; exact hL) hP (fun i hi => by rw [f1 3 (by omega)]; exact hv i hi) (k := k) (iN_ti (by omega)) ?_
      refine z_S G lk_X5_120 dX5_advance_29 [_] rfl rfl rfl (Nat.le_of_ble_eq_true rfl) ⟨Nat.le_refl _, Nat.le_refl _⟩ ?_
      refine k_X5_isFigure (fun _ => ?_) (fun q => absurd hdk q)
      refine z_if_eq G 77 dX5_advance_32 (by decide) (fun c => absurd c (by decide)) (fun _ => ?_)
      refine z_aload_n G dX5_advance_35 rfl ?_
      refine z_aload_n G dX5_advance_36 rfl ?_
      refine z_getI G fl_X5_45 rfl dX5_advance_37 (by assumption) ?_
      refine z_bipush G (v := 10) dX5_advance_40 (by decide) ?_
      refine z_imul G dX5_advance_42 ?_
      refine z_aload_n G dX5_advance_43 rfl ?_
      refine z_aload_n G dX5_advance_44 rfl ?_
      refine z_getI G fl_X5_48 rfl dX5_advance_45 (by assumption) ?_
      rw [e9]
      refine z_V G lk_X5_117 dX5_advance_48 [_] rfl rfl rfl (Nat.le_of_ble_eq_true rfl) ⟨Nat.le_refl _, Nat.le_refl _⟩ (by assumption) ?_
      refine k_X5_byteAt hR (by rw [f2 3 (by omega)]; exact hL) hP (fun i hi => by rw [f1 3 (by omega)]; exact hv i hi) (k := k) (iN_ti (by omega)) ?_
      refine z_iadd G dX5_advance_51 ?_
      refine z_bipush G (v := 48) dX5_advance_52 (by decide) ?_
      refine z_isub G dX5_advance_54 ?_
      refine z_bipush G (v := 100) dX5_advance_55 (by decide) ?_
      refine z_irem G dX5_advance_57 (by decide) ?_
      have hval : k + 1 ≤ a + 2 → J 2 8 * 10 + tp k - 48 - (J 2 8 * 10 + tp k - 48) / 100 * 100 = iN (pvN tp a (k + 1 - a)) := fun z => pv_step hk z (e8 (by omega)) (t3 a (Nat.le_refl _) (by omega)) hdk
      generalize J 2 8 * 10 + tp k - 48 - (J 2 8 * 10 + tp k - 48) / 100 * 100 = y at hval ⊢
      refine z_putI G fl_X5_45 ft_5_8 rfl rfl rfl dX5_advance_58 (by assumption) ?_
      refine z_aload_n G dX5_advance_61 rfl ?_
      refine z_dup G dX5_advance_62 rfl ?_
      try simp (disch := omega) only [va_at', va_ne', va_up_up]
      refine z_getI G fl_X5_48 rfl dX5_advance_63 (by assumption) ?_
      try simp (disch := omega) only [va_at', va_ne', va_up_up]
      refine z_iconst G (v := 1) dX5_advance_66 (by decide) ?_
      rw [e9]
      refine z_iadd G dX5_advance_67 ?_
      refine z_putI G fl_X5_48 ft_5_9 rfl rfl rfl dX5_advance_68 (by assumption) ?_
      refine z_iinc G (v := 1) dX5_advance_71 (by decide) rfl rfl ?_
      refine z_goto G 15 dX5_advance_74 (by decide) ?_
      try simp (disch := omega) only [va_at', va_ne', va_up_up]
      refine ih (k + 1) _ _ (by simp (disch := omega) only [iN_lit, iN_add, iN_sub, iN_mul, iN_an, iN_of hu]; exact iN_ti2 (by omega) (by omega)) (by omega) (by omega) (fun q hq => by rw [va_ne' hq]; exact f1 q hq) (fun j hj => by simp (disch := omega) only [va_at', va_ne', va_up_up]; exact f2 j hj) (by simp (disch := omega) only [va_at', va_ne', va_up_up]; exact e6) (by simp (disch := omega) only [va_at', va_ne', va_up_up]; exact iN_add k 1) (fun z => by simp (disch := omega) only [va_at', va_ne', va_up_up]; exact hval z)
  refine z_aload_n G dX5_advance_0 rfl ?_
  refine z_aload_n G dX5_advance_1 rfl ?_
  refine z_getI G fl_X5_48 rfl dX5_advance_2 (by assumption) ?_
  rw [ha]
  refine z_putI G fl_X5_39 ft_5_6 rfl rfl rfl dX5_advance_5 (by assumption) ?_
  refine z_aload_n G dX5_advance_8 rfl ?_
  refine z_iconst G (v := 0) dX5_advance_9 (by decide) ?_
  try simp (disch := omega) only [va_at', va_ne', va_up_up]
  refine z_putI G fl_X5_45 ft_5_8 rfl rfl rfl dX5_advance_10 (by assumption) ?_
  try simp (disch := omega) only [va_at', va_ne', va_up_up]
  refine z_iconst G (v := 0) dX5_advance_13 (by decide) ?_
  refine z_istore_n G dX5_advance_14 (Nat.le_of_ble_eq_true rfl) rfl ?_
  exact loop (tkD tp a - a) a 0 _ (by rw [Nat.sub_self]; rfl) (Nat.le_refl _) (by omega) (fun q hq => va_ne' hq) (fun j hj => by simp (disch := omega) only [va_at', va_ne', va_up_up]) (by simp (disch := omega) only [va_at', va_ne', va_up_up]) (by simp (disch := omega) only [va_at', va_ne', va_up_up]; exact ha) (fun _ => by simp (disch := omega) only [va_at', va_ne', va_up_up]; rw [Nat.sub_self]; rfl)
set_option maxHeartbeats 1000000 in
set_option maxRecDepth 20000 in
theorem k_X5_wrong {E : pmE} {d : Nat} {S : pmS} {I : pmI} {P : pmP} {R : Option Value → pmS → pmI → pmP → Prop} (c1 : OB S 2 5) {f : Int32} (h : R (some (.int 0)) S (va_up I 2 (va_up (va_up (I 2) 4 f) 5 (I 2 6))) P) : pmX E d 0 0 yX5_wrong [rr E 2, .int f] S I P R := by
  refine pm_of (by decide) cd_X5_wrong (by decide) (by decide) (Nat.le_of_ble_eq_true rfl) ?_
  intro C G hq
  refine z_aload_n G dX5_wrong_0 rfl ?_
  refine z_iload_n G dX5_wrong_1 rfl ?_
  refine z_putI G fl_X5_33 ft_5_4 rfl rfl rfl dX5_wrong_2 (by assumption) ?_
  refine z_aload_n G dX5_wrong_5 rfl ?_
  refine z_aload_n G dX5_wrong_6 rfl ?_
  refine z_getI G fl_X5_39 rfl dX5_wrong_7 (by assumption) ?_
  try simp (disch := omega) only [va_at', va_ne', va_up_up]
  refine z_putI G fl_X5_36 ft_5_5 rfl rfl rfl dX5_wrong_10 (by assumption) ?_
  try simp (disch := omega) only [va_at', va_ne', va_up_up]
  refine z_iconst G (v := 0) dX5_wrong_13 (by decide) ?_
  exact z_zret G hq dX5_wrong_14 rfl (h)
set_option maxHeartbeats 1000000 in
set_option maxRecDepth 20000 in
theorem k_X5_take {E : pmE} {d : Nat} {S : pmS} {I : pmI} {P : pmP} {R : Option Value → pmS → pmI → pmP → Prop} (hR : RdG S P) {tp : Nat → Int32} {a : Nat} {c : Int32} (hC : TC I tp) (hT : CT I tp a) (hc : ¬ c = -1) (h0 : ∀ e, pTake tp c a = .inl e → ∀ J, FL I J e → R (some (.int 0)) S J P) (h1 : ∀ a', pTake tp c a = .inr a' → ∀ J, KP I J 4 → J 2 10 = I 2 10 → CT J tp a' → R (some (.int 1)) S J P) : pmX E (d + 2) 0 0 yX5_take [rr E 2, .int c] S I P R := by
  refine pm_of (by decide) cd_X5_take (by decide) (by decide) (Nat.le_of_ble_eq_true rfl) ?_
  intro C G hq
  obtain ⟨c1, c2, c3, c4, c5, c6, c7⟩ := id hR
  obtain ⟨L, hL, hP, hv⟩ := id hC
  have hL80 := hP.1
  refine z_aload_n G dX5_take_0 rfl ?_
  refine z_getI G fl_X5_42 rfl dX5_take_1 (by assumption) ?_
  rw [hT.2.1]
  refine z_iload_n G dX5_take_4 rfl ?_
  refine z_icmp_eq G 14 dX5_take_5 (by decide) (fun b5 => ?_) (fun b5 => ?_)
  · refine z_aload_n G dX5_take_14 rfl ?_
    refine z_V G lk_X5_61 dX5_take_15 [] rfl rfl rfl (Nat.le_of_ble_eq_true rfl) ⟨Nat.le_refl _, Nat.le_refl _⟩ (by assumption) ?_
    refine k_X5_advance hR hC hT.2.2.2 (hP.ne (by rw [b5]; exact hc)) (fun J k1 _ k3 k4 => ?_)
    refine z_iconst G (v := 1) dX5_take_18 (by decide) ?_
    exact z_zret G hq dX5_take_19 rfl (h1 _ (pTake_r b5) J k1 k3 k4)
  · refine z_aload_n G dX5_take_8 rfl ?_
    refine z_iconst G (v := 1) dX5_take_9 (by decide) ?_
    refine z_V G lk_X5_100 dX5_take_10 [_] rfl rfl rfl (Nat.le_of_ble_eq_true rfl) ⟨Nat.le_refl _, Nat.le_refl _⟩ (by assumption) ?_
    refine k_X5_wrong c1 ?_
    exact z_zret G hq dX5_take_13 rfl (h0 _ (pTake_l b5) _ ⟨fun k hk => va_ne' (by omega), by simp (disch := omega) only [va_at', va_ne', va_up_up], by simp (disch := omega) only [va_at', va_ne', va_up_up]; exact hT.1⟩)
set_option maxHeartbeats 1000000 in
set_option maxRecDepth 20000 in
theorem k_X5_takeNumber {E : pmE} {d : Nat} {S : pmS} {I : pmI} {P : pmP} {R : Option Value → pmS → pmI → pmP → Prop} (hR : RdG S P) {tp : Nat → Int32} {a lo hi : Nat} {x y : Int32} (hC : TC I tp) (hT : CT I tp a) (hx : x = iN lo) (hy : y = iN hi) (hlo : lo < 1000) (hhi : hi < 1000) (h0 : ∀ e, pNum tp lo hi a = .inl e → ∀ J, FL I J e → R (some (.int 0)) S J P) (h1 : ∀ q, pNum tp lo hi a = .inr q → ∀ J, KP I J 4 → J 2 10 = iN q.2 → CT J tp q.1 → R (some (.int 1)) S J P) : pmX E (d + 2) 0 0 yX5_takeNumber [rr E 2, .int x, .int y] S I P R := by
  refine pm_of (by decide) cd_X5_takeNumber (by decide) (by decide) (Nat.le_of_ble_eq_true rfl) ?_
  intro C G hq
  obtain ⟨c1, c2, c3, c4, c5, c6, c7⟩ := id hR
  obtain ⟨L, hL, hP, hv⟩ := id hC
  have hL80 := hP.1
  refine z_aload_n G dX5_takeNumber_0 rfl ?_
  refine z_getI G fl_X5_42 rfl dX5_takeNumber_1 (by assumption) ?_
  rw [hT.2.1]
  refine z_bipush G (v := -2) dX5_takeNumber_4 (by decide) ?_
  refine z_icmp_eq G 15 dX5_takeNumber_6 (by decide) (fun b6 => ?_) (fun b6 => ?_)
  · obtain ⟨n1, n2, n3⟩ := hP.N100 b6
    have hval := hT.2.2.1 b6
    subst hx hy
    refine z_aload_n G dX5_takeNumber_15 rfl ?_
    refine z_getI G fl_X5_45 rfl dX5_takeNumber_16 (by assumption) ?_
    refine z_iload_n G dX5_takeNumber_19 rfl ?_
    rw [hval]
    refine z_icmp_lt G 31 dX5_takeNumber_20 (by decide) (fun b20 => ?_) (fun b20 => ?_)
    · refine z_aload_n G dX5_takeNumber_31 rfl ?_
      refine z_iconst G (v := 2) dX5_takeNumber_32 (by decide) ?_
      refine z_V G lk_X5_100 dX5_takeNumber_33 [_] rfl rfl rfl (Nat.le_of_ble_eq_true rfl) ⟨Nat.le_refl _, Nat.le_refl _⟩ (by assumption) ?_
      refine k_X5_wrong c1 ?_
      exact z_zret G hq dX5_takeNumber_36 rfl (h0 _ (pNum_2 b6 (fun z => by rw [iN_lt (by omega) (by omega)] at b20; omega)) _ ⟨fun k hk => va_ne' (by omega), by simp (disch := omega) only [va_at', va_ne', va_up_up], by simp (disch := omega) only [va_at', va_ne', va_up_up]; exact hT.1⟩)
    · refine z_aload_n G dX5_takeNumber_23 rfl ?_
      refine z_getI G fl_X5_45 rfl dX5_takeNumber_24 (by assumption) ?_
      refine z_iload_n G dX5_takeNumber_27 rfl ?_
      rw [hval]
      refine z_icmp_le G 37 dX5_takeNumber_28 (by decide) (fun b28 => ?_) (fun b28 => ?_)
      · refine z_aload_n G dX5_takeNumber_37 rfl ?_
        refine z_aload_n G dX5_takeNumber_38 rfl ?_
        refine z_getI G fl_X5_45 rfl dX5_takeNumber_39 (by assumption) ?_
        refine z_putI G fl_X5_51 ft_5_10 rfl rfl rfl dX5_takeNumber_42 (by assumption) ?_
        refine z_aload_n G dX5_takeNumber_45 rfl ?_
        have kp1 : KP I (va_up I 2 (va_up (I 2) 10 (I 2 8))) 4 := ⟨fun k hk => va_ne' (by omega), va_ne' (by omega), by simp (disch := omega) only [va_at', va_ne', va_up_up], by simp (disch := omega) only [va_at', va_ne', va_up_up]⟩
        refine z_V G lk_X5_61 dX5_takeNumber_46 [] rfl rfl rfl (Nat.le_of_ble_eq_true rfl) ⟨Nat.le_refl _, Nat.le_refl _⟩ (by assumption) ?_
        refine k_X5_advance hR (hC.kp kp1) (by simp (disch := omega) only [va_at', va_ne', va_up_up]; exact hT.2.2.2) (hP.ne (by rw [b6]; decide)) (fun J k1 _ k3 k4 => ?_)
        refine z_iconst G (v := 1) dX5_takeNumber_49 (by decide) ?_
        exact z_zret G hq dX5_takeNumber_50 rfl (h1 _ (pNum_r b6 ⟨by rw [iN_lt (by omega) (by omega)] at b20; omega, by rw [iN_le (by omega) (by omega)] at b28; exact b28⟩) J (kp1.tr k1) (by rw [k3]; simp (disch := omega) only [va_at', va_ne', va_up_up]; exact hval) k4)
      · refine z_aload_n G dX5_takeNumber_31 rfl ?_
        refine z_iconst G (v := 2) dX5_takeNumber_32 (by decide) ?_
        refine z_V G lk_X5_100 dX5_takeNumber_33 [_] rfl rfl rfl (Nat.le_of_ble_eq_true rfl) ⟨Nat.le_refl _, Nat.le_refl _⟩ (by assumption) ?_
        refine k_X5_wrong c1 ?_
        exact z_zret G hq dX5_takeNumber_36 rfl (h0 _ (pNum_2 b6 (fun z => by rw [iN_le (by omega) (by omega)] at b28; omega)) _ ⟨fun k hk => va_ne' (by omega), by simp (disch := omega) only [va_at', va_ne', va_up_up], by simp (disch := omega) only [va_at', va_ne', va_up_up]; exact hT.1⟩)
  · refine z_aload_n G dX5_takeNumber_9 rfl ?_
    refine z_iconst G (v := 1) dX5_takeNumber_10 (by decide) ?_
    refine z_V G lk_X5_100 dX5_takeNumber_11 [_] rfl rfl rfl (Nat.le_of_ble_eq_true rfl) ⟨Nat.le_refl _, Nat.le_refl _⟩ (by assumption) ?_
    refine k_X5_wrong c1 ?_
    exact z_zret G hq dX5_takeNumber_14 rfl (h0 _ (pNum_1 b6) _ ⟨fun k hk => va_ne' (by omega), by simp (disch := omega) only [va_at', va_ne', va_up_up], by simp (disch := omega) only [va_at', va_ne', va_up_up]; exact hT.1⟩)
set_option maxHeartbeats 1000000 in
set_option maxRecDepth 20000 in
theorem k_X5_sortOf {E : pmE} {d : Nat} {S : pmS} {I : pmI} {P : pmP} {R : Option Value → pmS → pmI → pmP → Prop} {x : Int32} (h1 : ¬ kdOf x = 0 → R (some (.int (iN (kdOf x)))) S I P) (h0 : kdOf x = 0 → R (some (.int (-1000000))) S I P) : pmX E d 0 0 yX5_sortOf [.int x] S I P R := by
  refine pm_of (by decide) cd_X5_sortOf (by decide) (by decide) (Nat.le_of_ble_eq_true rfl) ?_
  intro C G hq
  refine z_iload_n G dX5_sortOf_0 rfl ?_
  have hsw : (x.toInt < 103 ∨ 115 < x.toInt) ∨ x = 103 ∨ x = 104 ∨ x = 105 ∨ x = 106 ∨ x = 107 ∨ x = 108 ∨ x = 109 ∨ x = 110 ∨ x = 111 ∨ x = 112 ∨ x = 113 ∨ x = 114 ∨ x = 115 := by simp only [ti_eq, Int32.reduceToInt]; omega
  rcases hsw with e | e | e | e | e | e | e | e | e | e | e | e | e | e
  · refine z_tout G 78 dX5_sortOf_1 e (by decide) ?_
    have hno : ∀ v : Int32, 103 ≤ v.toInt → v.toInt ≤ 115 → ¬ x = v := fun v v1 v2 z => (by rw [z] at e; omega)
    have hk0 : kdOf x = 0 := by unfold kdOf; rw [if_neg (hno 112 (by decide) (by decide)), if_neg (hno 115 (by decide) (by decide)), if_neg (hno 110 (by decide) (by decide)), if_neg (hno 103 (by decide) (by decide)), if_neg (hno 107 (by decide) (by decide))]
    refine z_ldc G ct_X5_99 dX5_sortOf_78 ?_
    exact z_iret G hq dX5_sortOf_80 (h0 hk0)
  · refine z_tin G 74 dX5_sortOf_1 (by rw [e]; decide) (by rw [e]; decide) (by rw [e]; rfl) (by decide) ?_
    refine z_iconst G (v := 4) dX5_sortOf_74 (by decide) ?_
    exact z_iret G hq dX5_sortOf_75 (by subst e; have e2 : kdOf 103 = 4 := (by decide); have := h1 (by rw [e2]; decide); rw [e2] at this; exact this)
  · refine z_tin G 78 dX5_sortOf_1 (by rw [e]; decide) (by rw [e]; decide) (by rw [e]; rfl) (by decide) ?_
    refine z_ldc G ct_X5_99 dX5_sortOf_78 ?_
    exact z_iret G hq dX5_sortOf_80 (h0 (by rw [e]; decide))
  · refine z_tin G 78 dX5_sortOf_1 (by rw [e]; decide) (by rw [e]; decide) (by rw [e]; rfl) (by decide) ?_
    refine z_ldc G ct_X5_99 dX5_sortOf_78 ?_
    exact z_iret G hq dX5_sortOf_80 (h0 (by rw [e]; decide))
  · refine z_tin G 78 dX5_sortOf_1 (by rw [e]; decide) (by rw [e]; decide) (by rw [e]; rfl) (by decide) ?_
    refine z_ldc G ct_X5_99 dX5_sortOf_78 ?_
    exact z_iret G hq dX5_sortOf_80 (h0 (by rw [e]; decide))
  · refine z_tin G 76 dX5_sortOf_1 (by rw [e]; decide) (by rw [e]; decide) (by rw [e]; rfl) (by decide) ?_
    refine z_iconst G (v := 5) dX5_sortOf_76 (by decide) ?_
    exact z_iret G hq dX5_sortOf_77 (by subst e; have e2 : kdOf 107 = 5 := (by decide); have := h1 (by rw [e2]; decide); rw [e2] at this; exact this)
  · refine z_tin G 78 dX5_sortOf_1 (by rw [e]; decide) (by rw [e]; decide) (by rw [e]; rfl) (by decide) ?_
    refine z_ldc G ct_X5_99 dX5_sortOf_78 ?_
    exact z_iret G hq dX5_sortOf_80 (h0 (by rw [e]; decide))
  · refine z_tin G 78 dX5_sortOf_1 (by rw [e]; decide) (by rw [e]; decide) (by rw [e]; rfl) (by decide) ?_
    refine z_ldc G ct_X5_99 dX5_sortOf_78 ?_
    exact z_iret G hq dX5_sortOf_80 (h0 (by rw [e]; decide))
  · refine z_tin G 72 dX5_sortOf_1 (by rw [e]; decide) (by rw [e]; decide) (by rw [e]; rfl) (by decide) ?_
    refine z_iconst G (v := 3) dX5_sortOf_72 (by decide) ?_
    exact z_iret G hq dX5_sortOf_73 (by subst e; have e2 : kdOf 110 = 3 := (by decide); have := h1 (by rw [e2]; decide); rw [e2] at this; exact this)
  · refine z_tin G 78 dX5_sortOf_1 (by rw [e]; decide) (by rw [e]; decide) (by rw [e]; rfl) (by decide) ?_
    refine z_ldc G ct_X5_99 dX5_sortOf_78 ?_
    exact z_iret G hq dX5_sortOf_80 (h0 (by rw [e]; decide))
  · refine z_tin G 68 dX5_sortOf_1 (by rw [e]; decide) (by rw [e]; decide) (by rw [e]; rfl) (by decide) ?_
    refine z_iconst G (v := 1) dX5_sortOf_68 (by decide) ?_
    exact z_iret G hq dX5_sortOf_69 (by subst e; have e2 : kdOf 112 = 1 := (by decide); have := h1 (by rw [e2]; decide); rw [e2] at this; exact this)
  · refine z_tin G 78 dX5_sortOf_1 (by rw [e]; decide) (by rw [e]; decide) (by rw [e]; rfl) (by decide) ?_
    refine z_ldc G ct_X5_99 dX5_sortOf_78 ?_
    exact z_iret G hq dX5_sortOf_80 (h0 (by rw [e]; decide))
  · refine z_tin G 78 dX5_sortOf_1 (by rw [e]; decide) (by rw [e]; decide) (by rw [e]; rfl) (by decide) ?_
    refine z_ldc G ct_X5_99 dX5_sortOf_78 ?_
    exact z_iret G hq dX5_sortOf_80 (h0 (by rw [e]; decide))
  · refine z_tin G 70 dX5_sortOf_1 (by rw [e]; decide) (by rw [e]; decide) (by rw [e]; rfl) (by decide) ?_
    refine z_iconst G (v := 2) dX5_sortOf_70 (by decide) ?_
    exact z_iret G hq dX5_sortOf_71 (by subst e; have e2 : kdOf 115 = 2 := (by decide); have := h1 (by rw [e2]; decide); rw [e2] at this; exact this)
set_option maxHeartbeats 1000000 in
set_option maxRecDepth 20000 in
theorem k_X8_begin {E : pmE} {d : Nat} {S : pmS} {I : pmI} {P : pmP} {R : Option Value → pmS → pmI → pmP → Prop} {g : Nat} {x : Int32} (hG : WebG S P g) (h : ∀ J, FrW I J g → J g 2 = x → (∀ p, p < 8 → J (g + 1) p = 0) → R none S J P) : pmX E d 0 0 yX8_begin [rr E g, .int x] S I P R := by
  refine pm_of (by decide) cd_X8_begin (by decide) (by decide) (Nat.le_of_ble_eq_true rfl) ?_
  intro C G hq
  obtain ⟨g1, g2, g3, g4, g5⟩ := id hG
  have loop : ∀ (r k : Nat) (u : Int32) (J : pmI), u.toInt = (k : Int) → k + r = 8 → (∀ q, q ≠ g → q ≠ g + 1 → J q = I q) → J g 2 = x → (∀ p, p < k → J (g + 1) p = 0) → pmZ E C 7 [some (rr E g), some (.int x), some (.int u)] [] S J P 0 0 := by
    intro r
    induction r with
    | zero =>
      intro k u J hu hr f1 e1 e2
      obtain rfl : k = 8 := by omega
      refine z_iload_n G dX8_begin_7 rfl ?_
      refine z_bipush G (v := 8) dX8_begin_8 (by decide) ?_
      refine z_icmp_ge G 26 dX8_begin_10 (by decide) (fun _ => ?_) (fun c => absurd c (fun z => z (by simp (disch := omega) only [iN_lit, iN_add, iN_sub, iN_mul, iN_an, iN_le, iN_lt, iN_eq, iN_of hu] <;> omega)))
      exact z_vret G hq dX8_begin_26 (h J (fun q hq => f1 q (by omega) (by omega)) e1 e2)
    | succ r ih =>
      intro k u J hu hr f1 e1 e2
      refine z_iload_n G dX8_begin_7 rfl ?_
      refine z_bipush G (v := 8) dX8_begin_8 (by decide) ?_
      refine z_icmp_ge G 26 dX8_begin_10 (by decide) (fun c => absurd c (by simp (disch := omega) only [iN_lit, iN_add, iN_sub, iN_mul, iN_an, iN_le, iN_lt, iN_eq, iN_of hu]; omega)) (fun _ => ?_)
      refine z_aload_n G dX8_begin_13 rfl ?_
      refine z_getR G fl_X8_9 rfl dX8_begin_14 (by assumption) (by assumption) ?_
      refine z_iload_n G dX8_begin_17 rfl ?_
      refine z_iconst G (v := 0) dX8_begin_18 (by decide) ?_
      refine z_iast G (k) dX8_begin_19 (by assumption) (hu) (by omega) ?_
      refine z_iinc G (v := 1) dX8_begin_20 (by decide) rfl rfl ?_
      refine z_goto G 7 dX8_begin_23 (by decide) ?_
      refine ih (k + 1) _ _ (by simp (disch := omega) only [iN_lit, iN_add, iN_sub, iN_mul, iN_an, iN_of hu]; exact iN_ti2 (by omega) (by omega)) (by omega) (fun q a b => by rw [va_ne' b]; exact f1 q a b) (by rw [va_ne' (by omega)]; exact e1) (fun p hp => ?_)
      rw [va_at' rfl]
      by_cases hpk : p = k
      · subst hpk; exact va_at' rfl
      · rw [va_ne' hpk]; exact e2 p (by omega)
  refine z_aload_n G dX8_begin_0 rfl ?_
  refine z_iload_n G dX8_begin_1 rfl ?_
  refine z_putI G fl_X8_18 ft_8_2 rfl rfl rfl dX8_begin_2 (by assumption) ?_
  refine z_iconst G (v := 0) dX8_begin_5 (by decide) ?_
  refine z_istore_n G dX8_begin_6 (Nat.le_of_ble_eq_true rfl) rfl ?_
  exact loop 8 0 0 _ rfl (by omega) (fun q a _ => va_ne' a) (by simp (disch := omega) only [va_at', va_ne', va_up_up]) (fun p hp => absurd hp (by omega))
set_option maxHeartbeats 1000000 in
set_option maxRecDepth 20000 in
theorem k_X8_addLink {E : pmE} {d : Nat} {S : pmS} {I : pmI} {P : pmP} {R : Option Value → pmS → pmI → pmP → Prop} {g n p j : Nat} {x y : Int32} (hG : WebG S P g) (hsz : (I g 2).toInt = (n : Int)) (hx : x.toInt = (p : Int)) (hp : p < n) (h8 : n ≤ 8) (hc : (I (g + 1) p).toInt = (j : Int)) (hj : j < 3) (h : R none S (va_up (va_up I (g + 2) (va_up (I (g + 2)) (3 * p + j) y)) (g + 1) (va_up (I (g + 1)) p (iN (j + 1)))) P) : pmX E (d + 1) 0 0 yX8_addLink [rr E g, .int x, .int y] S I P R := by
  refine pm_of (by decide) cd_X8_addLink (by decide) (by decide) (Nat.le_of_ble_eq_true rfl) ?_
  intro C G hq
  obtain ⟨g1, g2, g3, g4, g5⟩ := id hG
  refine z_aload_n G dX8_addLink_0 rfl ?_
  refine z_iload_n G dX8_addLink_1 rfl ?_
  refine z_V G lk_X8_28 dX8_addLink_2 [_] rfl rfl rfl (Nat.le_of_ble_eq_true rfl) ⟨Nat.le_refl _, Nat.le_refl _⟩ (by assumption) ?_
  refine k_X8_hasPage g1 hsz (fun _ _ _ => ?_) (fun q => absurd ⟨p, hx, hp⟩ q)
  refine z_if_eq G 44 dX8_addLink_5 (by decide) (fun c => absurd c (by decide)) (fun _ => ?_)
  refine z_aload_n G dX8_addLink_8 rfl ?_
  refine z_getR G fl_X8_9 rfl dX8_addLink_9 (by assumption) (by assumption) ?_
  refine z_iload_n G dX8_addLink_12 rfl ?_
  refine z_iald G (p) dX8_addLink_13 (by assumption) (hx) (by omega) ?_
  refine z_iconst G (v := 3) dX8_addLink_14 (by decide) ?_
  refine z_icmp_ge G 44 dX8_addLink_15 (by decide) (fun c => absurd c (by simp (disch := omega) only [iN_lit, iN_add, iN_sub, iN_mul, iN_an, iN_le, iN_lt, iN_eq, iN_of hc]; omega)) (fun _ => ?_)
  refine z_aload_n G dX8_addLink_18 rfl ?_
  refine z_getR G fl_X8_15 rfl dX8_addLink_19 (by assumption) (by assumption) ?_
  refine z_iload_n G dX8_addLink_22 rfl ?_
  refine z_iconst G (v := 3) dX8_addLink_23 (by decide) ?_
  refine z_imul G dX8_addLink_24 ?_
  refine z_aload_n G dX8_addLink_25 rfl ?_
  refine z_getR G fl_X8_9 rfl dX8_addLink_26 (by assumption) (by assumption) ?_
  refine z_iload_n G dX8_addLink_29 rfl ?_
  refine z_iald G (p) dX8_addLink_30 (by assumption) (hx) (by omega) ?_
  refine z_iadd G dX8_addLink_31 ?_
  refine z_iload_n G dX8_addLink_32 rfl ?_
  refine z_iast G (3 * p + j) dX8_addLink_33 (by assumption) (by simp (disch := omega) only [iN_lit, iN_add, iN_sub, iN_mul, iN_an, iN_of hx, iN_of hc]; exact iN_ti2 (by omega) (by omega)) (by omega) ?_
  refine z_aload_n G dX8_addLink_34 rfl ?_
  refine z_getR G fl_X8_9 rfl dX8_addLink_35 (by assumption) (by assumption) ?_
  refine z_iload_n G dX8_addLink_38 rfl ?_
  refine z_dup2 G dX8_addLink_39 rfl rfl ?_
  refine z_iald G (p) dX8_addLink_40 (by assumption) (hx) (by omega) ?_
  try simp (disch := omega) only [va_at', va_ne', va_up_up]
  refine z_iconst G (v := 1) dX8_addLink_41 (by decide) ?_
  refine z_iadd G dX8_addLink_42 ?_
  refine z_top (y := iN (j + 1)) (by simp (disch := omega) only [iN_lit, iN_add, iN_sub, iN_mul, iN_an, iN_of hc] <;> exact congrArg iN (by omega)) ?_
  refine z_iast G (p) dX8_addLink_43 (by assumption) (hx) (by omega) ?_
  try simp (disch := omega) only [va_at', va_ne', va_up_up]
  exact z_vret G hq dX8_addLink_44 (h)
