set_option maxHeartbeats 1000000 in
set_option maxRecDepth 20000 in
theorem k_X1_addTab {E : pmE} {d : Nat} {S : pmS} {I : pmI} {P : pmP} {R : Option Value → pmS → pmI → pmP → Prop} {dk T q f : Nat} {place : Int32} (hG : DG S P dk) (hT : (I dk 3).toInt = (T : Int)) (hT5 : T < 5) (hq0 : place.toInt = (q : Int)) (hqT : q ≤ T) (hf : P (dk + 1) T = some f) (h : R (some (rr E f)) S (va_up I dk (va_up (va_up (I dk) 3 (iN (T + 1))) 4 (iN q))) (va_up P (dk + 1) (rotF (P (dk + 1)) q T))) : pmX E (d + 1) 0 0 yX1_addTab [rr E dk, .int place] S I P R := by
  refine pm_of (by decide) cd_X1_addTab (by decide) (by decide) (Nat.le_of_ble_eq_true rfl) ?_
  intro C G hq
  obtain ⟨⟨g1, g2, g3, g4, g5, g6, g7⟩, g8, g9, g10, g11, g12⟩ := id hG
  have loop : ∀ (r c : Nat) (x : Int32), x.toInt = (c : Int) → q + r = c → c ≤ T → pmZ E C 34 [some (rr E dk), some (.int place), some (.int (iN T)), some (.int (iN q)), some (rr E f), some (.int x)] [] S I (va_up P (dk + 1) (shF (P (dk + 1)) c T)) 0 0 := by
    intro r
    induction r with
    | zero =>
      intro c x hx hr hc
      obtain rfl : q = c := by omega
      refine z_iload G dX1_addTab_34 rfl ?_
      refine z_iload_n G dX1_addTab_36 rfl ?_
      refine z_icmp_le G 62 dX1_addTab_37 (by decide) (fun b37 => ?_) (fun b37 => ?_)
      · refine z_aload_n G dX1_addTab_62 rfl ?_
        refine z_getR G fl_X1_11 rfl dX1_addTab_63 (by assumption) (by rw [va_ne' (by omega)]; assumption) ?_
        refine z_iload_n G dX1_addTab_66 rfl ?_
        refine z_aload G dX1_addTab_67 rfl ?_
        refine z_aast G 5 (q) rfl (ci := 7) rfl (by decide) (by decide) dX1_addTab_69 (by assumption) (iN_ti (by omega)) (by omega) (hG.row_in hT5 hf).1.1 ?_
        refine z_aload_n G dX1_addTab_70 rfl ?_
        refine z_iload_n G dX1_addTab_71 rfl ?_
        refine z_iconst G (v := 1) dX1_addTab_72 (by decide) ?_
        refine z_iadd G dX1_addTab_73 ?_
        refine z_top (y := iN (T + 1)) (by rw [iN_lit, iN_add]) ?_
        refine z_putI G fl_X1_24 ft_1_3 rfl rfl rfl dX1_addTab_74 (by assumption) ?_
        refine z_aload_n G dX1_addTab_77 rfl ?_
        refine z_iload_n G dX1_addTab_78 rfl ?_
        refine z_putI G fl_X1_28 ft_1_4 rfl rfl rfl dX1_addTab_79 (by assumption) ?_
        refine z_aload G dX1_addTab_82 rfl ?_
        exact z_aret G hq dX1_addTab_84 (by simp only [va_up_self, va_up_up]; rw [← hf, shF_end]; exact h)
      · exact absurd (by simp (disch := omega) only [iN_lit, iN_add, iN_sub, iN_mul, iN_an, iN_le, iN_lt, iN_eq, iN_of hx]; omega) b37
    | succ r ih =>
      intro c x hx hr hc
      obtain ⟨c, rfl⟩ : ∃ e, c = e + 1 := ⟨c - 1, by omega⟩
      obtain ⟨g, hg1, hg2, hg3, hg4⟩ := hG.row (show c < 5 by omega)
      refine z_iload G dX1_addTab_34 rfl ?_
      refine z_iload_n G dX1_addTab_36 rfl ?_
      refine z_icmp_le G 62 dX1_addTab_37 (by decide) (fun b37 => ?_) (fun b37 => ?_)
      · exact absurd b37 (by simp (disch := omega) only [iN_lit, iN_add, iN_sub, iN_mul, iN_an, iN_le, iN_lt, iN_eq, iN_of hx]; omega)
      · refine z_aload_n G dX1_addTab_40 rfl ?_
        refine z_getR G fl_X1_11 rfl dX1_addTab_41 (by assumption) (by rw [va_ne' (by omega)]; assumption) ?_
        refine z_iload G dX1_addTab_44 rfl ?_
        refine z_aload_n G dX1_addTab_46 rfl ?_
        refine z_getR G fl_X1_11 rfl dX1_addTab_47 (by assumption) (by rw [va_ne' (by omega)]; assumption) ?_
        refine z_iload G dX1_addTab_50 rfl ?_
        refine z_iconst G (v := 1) dX1_addTab_52 (by decide) ?_
        refine z_isub G dX1_addTab_53 ?_
        refine z_aald G 5 (c) rfl (by decide) dX1_addTab_54 (by assumption) (by simp (disch := omega) only [iN_lit, iN_add, iN_sub, iN_mul, iN_an, iN_of hx]; exact iN_ti2 (by omega) (by omega)) (by omega) (by rw [va_up_self, shF_off (by omega)]; exact hg1) ?_
        refine z_aast G 5 (c + 1) rfl (ci := 7) rfl (by decide) (by decide) dX1_addTab_55 (by assumption) (by simp (disch := omega) only [iN_lit, iN_add, iN_sub, iN_mul, iN_an, iN_of hx]; exact iN_ti2 (by omega) (by omega)) (by omega) hg2.1 ?_
        refine z_iinc G (v := -1) dX1_addTab_56 (by decide) rfl rfl ?_
        refine z_goto G 34 dX1_addTab_59 (by decide) ?_
        refine z_eq rfl rfl rfl rfl ?_ (ih c _ (by simp (disch := omega) only [iN_lit, iN_add, iN_sub, iN_mul, iN_an, iN_of hx]; exact iN_ti2 (by omega) (by omega)) (by omega) (by omega))
        rw [va_up_self, va_up_up, ← hg1, shF_step (by omega)]
  refine z_iconst G (v := 0) dX1_addTab_0 (by decide) ?_
  refine z_aload_n G dX1_addTab_1 rfl ?_
  refine z_getI G fl_X1_24 rfl dX1_addTab_2 (by assumption) ?_
  refine z_iconst G (v := 4) dX1_addTab_5 (by decide) ?_
  refine z_mmin G ml_X1_95 mn_s mm_i mn_c dX1_addTab_6 rfl (Nat.le_of_ble_eq_true rfl) ⟨Nat.le_refl _, Nat.le_refl _⟩ ?_
  refine z_top (y := iN T) (by rw [if_neg (by simp (disch := omega) only [iN_lit, iN_add, iN_sub, iN_mul, iN_an, iN_le, iN_lt, iN_eq, iN_of hT]; omega), iN_of hT]) ?_
  refine z_mmax G ml_X1_103 mx_s mm_i mx_c dX1_addTab_9 rfl (Nat.le_of_ble_eq_true rfl) ⟨Nat.le_refl _, Nat.le_refl _⟩ ?_
  rw [max0 (by omega)]
  refine z_istore_n G dX1_addTab_12 (Nat.le_of_ble_eq_true rfl) rfl ?_
  refine z_iconst G (v := 0) dX1_addTab_13 (by decide) ?_
  refine z_iload_n G dX1_addTab_14 rfl ?_
  refine z_iload_n G dX1_addTab_15 rfl ?_
  refine z_mmin G ml_X1_95 mn_s mm_i mn_c dX1_addTab_16 rfl (Nat.le_of_ble_eq_true rfl) ⟨Nat.le_refl _, Nat.le_refl _⟩ ?_
  refine z_top (y := iN q) (by rw [if_neg (by simp (disch := omega) only [iN_lit, iN_add, iN_sub, iN_mul, iN_an, iN_le, iN_lt, iN_eq, iN_of hq0]; omega), iN_of hq0]) ?_
  refine z_mmax G ml_X1_103 mx_s mm_i mx_c dX1_addTab_19 rfl (Nat.le_of_ble_eq_true rfl) ⟨Nat.le_refl _, Nat.le_refl _⟩ ?_
  rw [max0 (by omega)]
  refine z_istore_n G dX1_addTab_22 (Nat.le_of_ble_eq_true rfl) rfl ?_
  refine z_aload_n G dX1_addTab_23 rfl ?_
  refine z_getR G fl_X1_11 rfl dX1_addTab_24 (by assumption) (by assumption) ?_
  refine z_iload_n G dX1_addTab_27 rfl ?_
  refine z_aald G 5 (T) rfl (by decide) dX1_addTab_28 (by assumption) (iN_ti (by omega)) (by omega) hf ?_
  refine z_astore G dX1_addTab_29 (Nat.le_of_ble_eq_true rfl) rfl ?_
  refine z_iload_n G dX1_addTab_31 rfl ?_
  refine z_istore G dX1_addTab_32 (Nat.le_of_ble_eq_true rfl) rfl ?_
  refine z_eq rfl rfl rfl rfl ?_ (loop (T - q) T _ (iN_ti (by omega)) (by omega) (Nat.le_refl _))
  rw [shF_0, va_up_id]
def TF (w : Nat → Int32) (T t : Nat) : Nat := if w (44 + 10 * t) = 3 then T + 1 else T
def tF (w : Nat → Int32) (t : Nat) : Nat := if w (44 + 10 * t) = 3 then t + 1 else t
theorem Vd.step' {w : Nat → Int32} {n T t c s q : Nat} {page : Int32} (h : Vd w n T t c) (hs : (w (47 + 10 * t)).toInt = (s : Int)) (hq : page.toInt = (q : Int)) (hqn : q < n) (hm : ¬ w (44 + 10 * t) = 3 ∨ T < 5) : Vd (stepW w T t s page) n (TF w T t) (tF w t) c := by
  unfold stepW TF tF
  split
  · next h3 =>
    have hT5 : T < 5 := hm.elim (fun z => absurd h3 z) id
    have ht := h.2.2.1
    exact h.ins hT5 (by rw [iN_of ht.1, iN_lit, iN_add]; exact iN_ti (by omega)) (by omega) hq hqn
  · exact h.comes hs hq hqn
theorem Vd.follows' {w : Nat → Int32} {n T t c s p cn j : Nat} (h : Vd w n T t c) (hs : (w (47 + 10 * t)).toInt = (s : Int)) (hp : p < n) (hc : (w (4 + 5 * p)).toInt = (cn : Int)) (hj : j < cn) (hm : ¬ w (44 + 10 * t) = 3 ∨ T < 5) : Vd (followsF w T t s p j) n (TF w T t) (tF w t) c := by
  obtain ⟨c', e1, e2, e3, e4⟩ := h.2.2.2.2.1 p hp
  obtain ⟨q, hq, hqn⟩ := e4 j (by omega)
  have hV := h.step' hs hq hqn hm
  obtain ⟨s', p', hN, hp'⟩ := hV.nw
  unfold followsF
  rw [hN.see]
  exact hV.vis hp'
set_option maxHeartbeats 1000000 in
set_option maxRecDepth 20000 in
theorem k_X1_followLink {E : pmE} {d : Nat} {S : pmS} {I : pmI} {P : pmP} {R : Option Value → pmS → pmI → pmP → Prop} {dk n T t c : Nat} {w : Nat → Int32} (hG : DG S P dk) (hD : DR I P dk w T c) (hV : Vd w n T t c) {g s0 p0 cn : Nat} {j : Int32} (hWG : WebG S P g) (hW : WR I g w n) (hN0 : Nw w t s0 p0) (hc : (w (4 + 5 * p0)).toInt = (cn : Int)) (h1 : ∀ jn : Nat, j.toInt = (jn : Int) → jn < cn → (¬ w (44 + 10 * t) = 3 ∨ T < 5) → ∀ I' P', FrD I I' dk → FrP P P' dk → DG S P' dk → DR I' P' dk (followsF w T t s0 p0 jn) (TF w T t) c → R (some (.int 1)) S I' P') (h0 : ¬ (0 ≤ j.toInt ∧ j.toInt < (cn : Int) ∧ (¬ w (44 + 10 * t) = 3 ∨ T < 5)) → R (some (.int 0)) S I P) : pmX E (d + 3) 0 0 yX1_followLink [rr E dk, rr E g, .int j] S I P R := by
  refine pm_of (by decide) cd_X1_followLink (by decide) (by decide) (Nat.le_of_ble_eq_true rfl) ?_
  intro C G hq
  obtain ⟨⟨g1, g2, g3, g4, g5, g6, g7⟩, g8, g9, g10, g11, g12⟩ := id hG
  obtain ⟨v1, v2, v3, v4, v5, v6, v7, v8⟩ := id hV
  obtain ⟨d1, d2, d3, d4, d5, d6⟩ := id hD
  obtain ⟨tt, ht1, ht2, ht3, ht4⟩ := hG.row (show t < 5 by omega)
  have hTR := d4 t v3.2 tt ht1
  obtain ⟨s, p, hN, hpn⟩ := hV.nw
  have hnow : (I dk 4).toInt = (t : Int) := by rw [d2]; exact v3.1
  have hTI : (I dk 3).toInt = (T : Int) := by rw [d1]; exact v2.1
  have hsh : (I tt 4).toInt = (s : Int) := by rw [hTR.2.2.2.1, show 44 + 10 * t + 3 = 47 + 10 * t by omega]; exact hN.2.2.1
  have hs6 := hN.2.2.2.1
  obtain ⟨kd, hm, l, s2, u1, u2, u3, u4, u5, u6, u7, u8, u9, u10, u11⟩ := v6 t v3.2
  obtain rfl : s = s2 := by have := hN.2.2.1; rw [show 44 + 10 * t + 3 = 47 + 10 * t by omega] at u9; omega
  have hpg : I (tt + 1) s = w (48 + 10 * t + s) := by rw [hTR.2.2.2.2 s (by omega), show 44 + 10 * t + 4 + s = 48 + 10 * t + s by omega]
  obtain rfl : s = s0 := by have a1 := hN.2.2.1; have a2 := hN0.2.2.1; omega
  obtain rfl : p = p0 := by have a1 := hN.2.2.2.2.1; have a2 := hN0.2.2.2.2.1; omega
  obtain ⟨cn2, w1, w2, w3, w4⟩ := v5 p hpn
  obtain rfl : cn = cn2 := by omega
  have hk1 : I tt 1 = w (44 + 10 * t) := hTR.1
  refine z_aload_n G dX1_followLink_0 rfl ?_
  refine z_aload_n G dX1_followLink_1 rfl ?_
  refine z_getI G fl_X1_28 rfl dX1_followLink_2 (by assumption) ?_
  refine z_V G lk_X1_45 dX1_followLink_5 [_] rfl rfl rfl (Nat.le_of_ble_eq_true rfl) ⟨Nat.le_refl _, Nat.le_refl _⟩ (by assumption) ?_
  refine k_X1_hasTab g1 hTI (by omega) (fun p2 q1 q2 => ?_) (fun q => absurd ⟨t, hnow, v3.2⟩ q)
  refine z_if_ne G 13 dX1_followLink_8 (by decide) (fun _ => ?_) (fun c => absurd c (by decide))
  refine z_aload_n G dX1_followLink_13 rfl ?_
  refine z_aload_n G dX1_followLink_14 rfl ?_
  refine z_getR G fl_X1_11 rfl dX1_followLink_15 (by assumption) (by assumption) ?_
  refine z_aload_n G dX1_followLink_18 rfl ?_
  refine z_getI G fl_X1_28 rfl dX1_followLink_19 (by assumption) ?_
  refine z_aald G 5 (t) rfl (by decide) dX1_followLink_22 (by assumption) (hnow) (by omega) (by assumption) ?_
  refine z_V G lk_X1_49 dX1_followLink_23 [] rfl rfl rfl (Nat.le_of_ble_eq_true rfl) ⟨Nat.le_refl _, Nat.le_refl _⟩ ht2.1 ?_
  refine k_X7_shownPage ht2 hsh hs6 ?_
  rw [hpg]
  refine z_iload_n G dX1_followLink_26 rfl ?_
  refine z_V G lk_X1_53 dX1_followLink_27 [_, _] rfl rfl rfl (Nat.le_of_ble_eq_true rfl) ⟨Nat.le_refl _, Nat.le_refl _⟩ hWG.1 ?_
  refine k_X8_target hWG hW v1.1 (by omega) hN.2.2.2.2.1 hpn hc w3 ?_ ?_
  · intro jn hj hjc
    obtain ⟨q5, hq5, hqn⟩ := w4 jn hjc
    refine z_istore_n G dX1_followLink_30 (Nat.le_of_ble_eq_true rfl) rfl ?_
    refine z_iload_n G dX1_followLink_31 rfl ?_
    refine z_ldc G ct_X1_59 dX1_followLink_32 ?_
    refine z_icmp_ne G 39 dX1_followLink_34 (by decide) (fun _ => ?_) (fun c => absurd c (fun e => by rw [e] at hq5; simp only [Int32.reduceToInt] at hq5; omega))
    refine z_aload_n G dX1_followLink_39 rfl ?_
    refine z_getR G fl_X1_11 rfl dX1_followLink_40 (by assumption) (by assumption) ?_
    refine z_aload_n G dX1_followLink_43 rfl ?_
    refine z_getI G fl_X1_28 rfl dX1_followLink_44 (by assumption) ?_
    refine z_aald G 5 (t) rfl (by decide) dX1_followLink_47 (by assumption) (hnow) (by omega) (by assumption) ?_
    refine z_getI G fl_X1_60 rfl dX1_followLink_48 ht2.1 ?_
    rw [hk1]
    refine z_iconst G (v := 3) dX1_followLink_51 (by decide) ?_
    refine z_icmp_eq G 71 dX1_followLink_52 (by decide) (fun b52 => ?_) (fun b52 => ?_)
    · refine z_aload_n G dX1_followLink_71 rfl ?_
      refine z_V G lk_X1_67 dX1_followLink_72 [] rfl rfl rfl (Nat.le_of_ble_eq_true rfl) ⟨Nat.le_refl _, Nat.le_refl _⟩ (by assumption) ?_
      refine k_X1_hasRoom g1 hTI ?_ ?_
      · intro hroom
        refine z_if_eq G 96 dX1_followLink_75 (by decide) (fun c => absurd c (by decide)) (fun _ => ?_)
        obtain ⟨f, hf, hf2, hf3, hf4⟩ := hG.row hroom
        have hf2' := hf2.congr (show (va_up P (dk + 1) (rotF (P (dk + 1)) (t + 1) T)) f = P f from va_ne' (by omega))
        refine z_aload_n G dX1_followLink_78 rfl ?_
        refine z_aload_n G dX1_followLink_79 rfl ?_
        refine z_getI G fl_X1_28 rfl dX1_followLink_80 (by assumption) ?_
        refine z_iconst G (v := 1) dX1_followLink_83 (by decide) ?_
        refine z_iadd G dX1_followLink_84 ?_
        refine z_V G lk_X1_71 dX1_followLink_85 [_] rfl rfl rfl (Nat.le_of_ble_eq_true rfl) ⟨Nat.le_refl _, Nat.le_refl _⟩ (by assumption) ?_
        refine k_X1_addTab hG hTI hroom (q := t + 1) (by simp (disch := omega) only [iN_lit, iN_add, iN_sub, iN_mul, iN_an, iN_of hnow]; exact iN_ti2 (by omega) (by omega)) (by omega) hf ?_
        refine z_iconst G (v := 1) dX1_followLink_88 (by decide) ?_
        refine z_iload_n G dX1_followLink_89 rfl ?_
        refine z_V G lk_X1_75 dX1_followLink_90 [_, _] rfl rfl rfl (Nat.le_of_ble_eq_true rfl) ⟨Nat.le_refl _, Nat.le_refl _⟩ hf2'.1 ?_
        refine k_X7_begin hf2' (fun I' f1 f2 => ?_)
        refine z_goto G 98 dX1_followLink_93 (by decide) ?_
        have hm2 : ¬ w (44 + 10 * t) = 3 ∨ T < 5 := Or.inr hroom
        have hV2 := hV.step' hN.2.2.1 hq5 hqn hm2
        obtain ⟨s3, p3, hN3, hp3⟩ := hV2.nw
        have hD2 : DR I' (va_up P (dk + 1) (rotF (P (dk + 1)) (t + 1) T)) dk (stepW w T t s (w (5 + 5 * p + jn))) (TF w T t) c := by unfold stepW TF; rw [if_pos b52, if_pos b52]; exact hD.ins hG hV hroom (by omega) (by rw [iN_of v3.1, iN_lit, iN_add]; exact iN_ti (by omega)) hf f1 f2
        have hG2 : DG S (va_up P (dk + 1) (rotF (P (dk + 1)) (t + 1) T)) dk := hG.rot (by omega) hroom
        have hFD : FrD I I' dk := fun k hk => (f1 k (by omega) (by omega)).trans (va_ne' (by omega))
        have hFP : FrP P (va_up P (dk + 1) (rotF (P (dk + 1)) (t + 1) T)) dk := fun k k1 k2 => va_ne' k1
        refine z_aload_n G dX1_followLink_98 rfl ?_
        refine z_aload_n G dX1_followLink_99 rfl ?_
        refine z_V G lk_X1_79 dX1_followLink_100 [] rfl rfl rfl (Nat.le_of_ble_eq_true rfl) ⟨Nat.le_refl _, Nat.le_refl _⟩ (by assumption) ?_
        refine k_X1_shownPage hG2 hD2 hV2 hN3 ?_
        refine z_V G lk_X1_80 dX1_followLink_103 [_] rfl rfl rfl (Nat.le_of_ble_eq_true rfl) ⟨Nat.le_refl _, Nat.le_refl _⟩ (by assumption) ?_
        refine k_X1_visit hG2 hD2 hV2 hN3.2.2.2.2.1 (by omega) (fun I2 m1 m2 => ?_)
        refine z_iconst G (v := 1) dX1_followLink_106 (by decide) ?_
        exact z_zret G hq dX1_followLink_107 rfl (h1 jn hj hjc hm2 I2 _ (hFD.tr m1) hFP hG2 (by unfold followsF; rw [hN3.see]; exact m2))
      · intro hroom
        refine z_if_eq G 96 dX1_followLink_75 (by decide) (fun _ => ?_) (fun c => absurd c (by decide))
        refine z_iconst G (v := 0) dX1_followLink_96 (by decide) ?_
        exact z_zret G hq dX1_followLink_97 rfl (h0 (fun q => q.2.2.elim (fun z => z b52) hroom))
    · refine z_aload_n G dX1_followLink_55 rfl ?_
      refine z_getR G fl_X1_11 rfl dX1_followLink_56 (by assumption) (by assumption) ?_
      refine z_aload_n G dX1_followLink_59 rfl ?_
      refine z_getI G fl_X1_28 rfl dX1_followLink_60 (by assumption) ?_
      refine z_aald G 5 (t) rfl (by decide) dX1_followLink_63 (by assumption) (hnow) (by omega) (by assumption) ?_
      refine z_iload_n G dX1_followLink_64 rfl ?_
      refine z_V G lk_X1_63 dX1_followLink_65 [_] rfl rfl rfl (Nat.le_of_ble_eq_true rfl) ⟨Nat.le_refl _, Nat.le_refl _⟩ ht2.1 ?_
      refine k_X7_moveOn ht2 hTR (v6 t v3.2) hN.2.2.1 (fun I' f1 f2 => ?_)
      refine z_goto G 98 dX1_followLink_68 (by decide) ?_
      have hm2 : ¬ w (44 + 10 * t) = 3 ∨ T < 5 := Or.inl b52
      have hV2 := hV.step' hN.2.2.1 hq5 hqn hm2
      obtain ⟨s3, p3, hN3, hp3⟩ := hV2.nw
      have hD2 : DR I' P dk (stepW w T t s (w (5 + 5 * p + jn))) (TF w T t) c := by unfold stepW TF; rw [if_neg b52, if_neg b52]; exact hD.tab hG (by omega) (by omega) hV ht1 f1 (fun i hi => comes_off (by omega) hi) f2
      have hG2 : DG S P dk := hG
      have hFD : FrD I I' dk := f1.D (by omega) (by omega)
      have hFP : FrP P P dk := FrP.rf
      refine z_aload_n G dX1_followLink_98 rfl ?_
      refine z_aload_n G dX1_followLink_99 rfl ?_
      refine z_V G lk_X1_79 dX1_followLink_100 [] rfl rfl rfl (Nat.le_of_ble_eq_true rfl) ⟨Nat.le_refl _, Nat.le_refl _⟩ (by assumption) ?_
      refine k_X1_shownPage hG2 hD2 hV2 hN3 ?_
      refine z_V G lk_X1_80 dX1_followLink_103 [_] rfl rfl rfl (Nat.le_of_ble_eq_true rfl) ⟨Nat.le_refl _, Nat.le_refl _⟩ (by assumption) ?_
      refine k_X1_visit hG2 hD2 hV2 hN3.2.2.2.2.1 (by omega) (fun I2 m1 m2 => ?_)
      refine z_iconst G (v := 1) dX1_followLink_106 (by decide) ?_
      exact z_zret G hq dX1_followLink_107 rfl (h1 jn hj hjc hm2 I2 _ (hFD.tr m1) hFP hG2 (by unfold followsF; rw [hN3.see]; exact m2))
  · intro hbad
    refine z_istore_n G dX1_followLink_30 (Nat.le_of_ble_eq_true rfl) rfl ?_
    refine z_iload_n G dX1_followLink_31 rfl ?_
    refine z_ldc G ct_X1_59 dX1_followLink_32 ?_
    refine z_icmp_ne G 39 dX1_followLink_34 (by decide) (fun c => absurd c (by decide)) (fun _ => ?_)
    refine z_iconst G (v := 0) dX1_followLink_37 (by decide) ?_
    exact z_zret G hq dX1_followLink_38 rfl (h0 (fun q => hbad ⟨q.1, q.2.1⟩))
