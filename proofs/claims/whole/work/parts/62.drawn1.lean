set_option maxHeartbeats 1000000 in
set_option maxRecDepth 20000 in
theorem k_X2_drawnAct {E : pmE} {d : Nat} {S : pmS} {I : pmI} {P : pmP} {R : Option Value → pmS → pmI → pmP → Prop} (hX : XG S P) {n T t c x : Nat} {w : Nat → Int32} (hD : DR I P 556 w T c) (hV : Vd w n T t c) (hW : WR I 27 w n) (hx : x < 2147483648) (h1 : drV w x → ∀ (J : pmI) (Q : pmP) (T9 t9 c9 : Nat), FrD I J 556 → FrP P Q 556 → DG S Q 556 → DR J Q 556 (drS w x) T9 c9 → Vd (drS w x) n T9 t9 c9 → R (some (.int 1)) S J Q) (h0 : ¬ drV w x → ∀ (J : pmI) (Q : pmP) (T9 t9 c9 : Nat), FrD I J 556 → FrP P Q 556 → DG S Q 556 → DR J Q 556 (drS w x) T9 c9 → Vd (drS w x) n T9 t9 c9 → R (some (.int 0)) S J Q) : pmX E (d + 4) 0 0 yX2_drawnAct [rr E 553, rr E 27, .int (iN x)] S I P R := by
  refine pm_of (by decide) cd_X2_drawnAct (by decide) (by decide) (Nat.le_of_ble_eq_true rfl) ?_
  intro C G hq
  obtain ⟨⟨a0, a1, a2, a3, a4, a5, a6, a7, a8⟩, hRG, hRdG, hWG, hDG, ⟨z1, z2, z3, z4⟩, hIG, hFG, hAG⟩ := id hX
  obtain ⟨v1, v2, v3, v4, v5, v6, v7, v8⟩ := id hV
  obtain ⟨f1, ⟨f2, f3, f4, f5, f6, f7, f8, f9⟩, f10, f11, f12, f13, f14, f15, f16, f17, f18⟩ := id hFG
  have hG := f12
  obtain ⟨d1, d2, d3, d4, d5, d6⟩ := id hD
  have hTI : (I 556 3).toInt = (T : Int) := by rw [d1]; exact v2.1
  have hsz : (I 27 2).toInt = (n : Int) := by rw [hW.1]; exact v1.1
  have hx7 := Nat.mod_lt x (show 0 < 7 by omega)
  obtain ⟨s, p, hN, hpn⟩ := hV.nw
  obtain ⟨cn, c1, c2, c3, c4⟩ := v5 p hpn
  refine z_iload_n G dX2_drawnAct_0 rfl ?_
  refine z_if_lt G 21 dX2_drawnAct_1 (by decide) (fun c => absurd c (by simp only [ti_lt, ti_le, Int32.reduceToInt, iN_ti hx]; omega)) (fun _ => ?_)
  refine z_aload_n G dX2_drawnAct_4 rfl ?_
  refine z_getR G fl_X2_21 rfl dX2_drawnAct_5 f1 f4 ?_
  refine z_getI G fl_X2_160 rfl dX2_drawnAct_8 hG.1.1 ?_
  refine z_if_le G 21 dX2_drawnAct_11 (by decide) (fun c => absurd c (by simp (disch := omega) only [iN_lit, iN_add, iN_sub, iN_mul, iN_an, iN_le, iN_lt, iN_eq, iN_of hTI]; omega)) (fun _ => ?_)
  refine z_aload_n G dX2_drawnAct_14 rfl ?_
  refine z_getI G fl_X2_92 rfl dX2_drawnAct_15 hWG.1 ?_
  refine z_if_gt G 23 dX2_drawnAct_18 (by decide) (fun _ => ?_) (fun c => absurd c (fun z => z (by simp (disch := omega) only [iN_lit, iN_add, iN_sub, iN_mul, iN_an, iN_le, iN_lt, iN_eq, iN_of hsz] <;> omega)))
  refine z_iload_n G dX2_drawnAct_23 rfl ?_
  refine z_bipush G (v := 7) dX2_drawnAct_24 (by decide) ?_
  refine z_irem G dX2_drawnAct_26 (by decide) ?_
  refine z_top (y := iN (x % 7)) (iN_rem (b := 7) hx (by omega)) ?_
  refine z_istore_n G dX2_drawnAct_27 (Nat.le_of_ble_eq_true rfl) rfl ?_
  refine z_iload_n G dX2_drawnAct_28 rfl ?_
  have hsw : ((iN (x % 7)).toInt < 3 ∨ 6 < (iN (x % 7)).toInt) ∨ (iN (x % 7)) = 3 ∨ (iN (x % 7)) = 4 ∨ (iN (x % 7)) = 5 ∨ (iN (x % 7)) = 6 := by simp only [ti_eq, Int32.reduceToInt]; omega
  rcases hsw with e | e | e | e | e
  · refine z_tout G 113 dX2_drawnAct_29 e (by decide) ?_
    have h7 : x % 7 < 3 := by rw [iN_ti (by omega)] at e; omega
    refine z_aload_n G dX2_drawnAct_113 rfl ?_
    refine z_getR G fl_X2_21 rfl dX2_drawnAct_114 f1 f4 ?_
    refine z_aload_n G dX2_drawnAct_117 rfl ?_
    refine z_iload_n G dX2_drawnAct_118 rfl ?_
    refine z_V G lk_X2_175 dX2_drawnAct_119 [_, _] rfl rfl rfl (Nat.le_of_ble_eq_true rfl) ⟨Nat.le_refl _, Nat.le_refl _⟩ hG.1.1 ?_
    refine k_X1_followLink hG hD hV hWG hW hN c1 ?_ ?_
    · intro jn e1 e2 e3 J2 Q2 hF2 hP2 hG2 hD2
      rw [iN_ti (by omega)] at e1
      obtain rfl : jn = x % 7 := by omega
      have hm : mayP w (x % 7 + 2) := (hV.mayL hN c1 (by omega)).mpr ⟨by omega, e3⟩
      exact z_zret G hq dX2_drawnAct_122 rfl (h1 (drV_y h7 hm) J2 Q2 (TF w T t) (tF w t) c hF2 hP2 hG2 (by rw [dr_T h7 hm, hV.doL hN (by omega)]; exact hD2) (by rw [dr_T h7 hm, hV.doL hN (by omega)]; exact hV.follows' hN.2.2.1 hpn c1 e2 e3))
    · intro hno
      have hm : ¬ mayP w (x % 7 + 2) := fun z => hno (by have := (hV.mayL hN c1 (by omega)).mp z; rw [iN_ti (by omega)]; exact ⟨by omega, by omega, this.2⟩)
      exact z_zret G hq dX2_drawnAct_122 rfl (h0 (drV_n h7 hm) I P T t c FrD.rf FrP.rf hG (by rw [dr_F h7 hm]; exact hD) (by rw [dr_F h7 hm]; exact hV))
  · refine z_tin G 60 dX2_drawnAct_29 (by rw [e]; decide) (by rw [e]; decide) (by rw [e]; rfl) (by decide) ?_
    have h7 : x % 7 = 3 := by rw [iN_lit, iN_eq (by omega) (by omega)] at e; exact e
    refine z_aload_n G dX2_drawnAct_60 rfl ?_
    refine z_getR G fl_X2_21 rfl dX2_drawnAct_61 f1 f4 ?_
    refine z_V G lk_X2_163 dX2_drawnAct_64 [] rfl rfl rfl (Nat.le_of_ble_eq_true rfl) ⟨Nat.le_refl _, Nat.le_refl _⟩ hG.1.1 ?_
    refine k_X1_stepBack hG hD hV ?_ ?_
    · intro hm J2 hF2 hD2
      refine z_pop G dX2_drawnAct_67 rfl ?_
      refine z_iconst G (v := 0) dX2_drawnAct_68 (by decide) ?_
      exact z_zret G hq dX2_drawnAct_69 rfl (h0 (drV_o (Or.inl h7)) J2 P T t c hF2 FrP.rf hG (by rw [dr_3T h7 (hV.mayB.mpr hm), hV.doG (by omega)]; exact hD2) (by rw [dr_3T h7 (hV.mayB.mpr hm), hV.doG (by omega)]; exact hV.goB hm))
    · intro hm
      refine z_pop G dX2_drawnAct_67 rfl ?_
      refine z_iconst G (v := 0) dX2_drawnAct_68 (by decide) ?_
      exact z_zret G hq dX2_drawnAct_69 rfl (h0 (drV_o (Or.inl h7)) I P T t c FrD.rf FrP.rf hG (by rw [dr_3F h7 (fun z => hm (hV.mayB.mp z))]; exact hD) (by rw [dr_3F h7 (fun z => hm (hV.mayB.mp z))]; exact hV))
  · refine z_tin G 70 dX2_drawnAct_29 (by rw [e]; decide) (by rw [e]; decide) (by rw [e]; rfl) (by decide) ?_
    have h7 : x % 7 = 4 := by rw [iN_lit, iN_eq (by omega) (by omega)] at e; exact e
    have hxT := Nat.mod_lt x (show 0 < T by omega)
    refine z_aload_n G dX2_drawnAct_70 rfl ?_
    refine z_getR G fl_X2_21 rfl dX2_drawnAct_71 f1 f4 ?_
    refine z_iload_n G dX2_drawnAct_74 rfl ?_
    refine z_aload_n G dX2_drawnAct_75 rfl ?_
    refine z_getR G fl_X2_21 rfl dX2_drawnAct_76 f1 f4 ?_
    refine z_getI G fl_X2_160 rfl dX2_drawnAct_79 hG.1.1 ?_
    rw [iN_of hTI]
    refine z_irem G dX2_drawnAct_82 (by rw [iN_lit, iN_eq (by omega) (by omega)]; omega) ?_
    refine z_top (y := iN (x % T)) (iN_rem hx (by omega)) ?_
    refine z_V G lk_X2_166 dX2_drawnAct_83 [_] rfl rfl rfl (Nat.le_of_ble_eq_true rfl) ⟨Nat.le_refl _, Nat.le_refl _⟩ hG.1.1 ?_
    refine k_X1_selectTab hG hD hV (iN_ti (by omega)) hxT ?_ ?_
    · intro hm J2 hF2 hD2
      refine z_pop G dX2_drawnAct_86 rfl ?_
      refine z_iconst G (v := 0) dX2_drawnAct_87 (by decide) ?_
      exact z_zret G hq dX2_drawnAct_88 rfl (h0 (drV_o (Or.inr (Or.inl h7))) J2 P T (x % T) c hF2 FrP.rf hG (by rw [dr_4 h7 hV]; exact hD2) (by rw [dr_4 h7 hV]; exact hV.sel (iN_ti (by omega)) hxT))
    · intro hm
      refine z_pop G dX2_drawnAct_86 rfl ?_
      refine z_iconst G (v := 0) dX2_drawnAct_87 (by decide) ?_
      exact z_zret G hq dX2_drawnAct_88 rfl (h0 (drV_o (Or.inr (Or.inl h7))) I P T t c FrD.rf FrP.rf hG (by rw [dr_4 h7 hV, hm, va_up_id]; exact hD) (by rw [dr_4 h7 hV, hm, va_up_id]; exact hV))
  · refine z_tin G 89 dX2_drawnAct_29 (by rw [e]; decide) (by rw [e]; decide) (by rw [e]; rfl) (by decide) ?_
    have h7 : x % 7 = 5 := by rw [iN_lit, iN_eq (by omega) (by omega)] at e; exact e
    have hxn := Nat.mod_lt x (show 0 < n by omega)
    refine z_aload_n G dX2_drawnAct_89 rfl ?_
    refine z_getR G fl_X2_21 rfl dX2_drawnAct_90 f1 f4 ?_
    refine z_iload_n G dX2_drawnAct_93 rfl ?_
    refine z_aload_n G dX2_drawnAct_94 rfl ?_
    refine z_getI G fl_X2_92 rfl dX2_drawnAct_95 hWG.1 ?_
    rw [iN_of hsz]
    refine z_irem G dX2_drawnAct_98 (by rw [iN_lit, iN_eq (by omega) (by omega)]; omega) ?_
    refine z_top (y := iN (x % n)) (iN_rem hx (by omega)) ?_
    refine z_V G lk_X2_169 dX2_drawnAct_99 [_] rfl rfl rfl (Nat.le_of_ble_eq_true rfl) ⟨Nat.le_refl _, Nat.le_refl _⟩ hG.1.1 ?_
    refine k_X1_openPage hG hD hV (iN_ti (by omega)) hxn ?_ ?_
    · intro hm J2 Q2 hF2 hP2 hG2 hD2
      exact z_zret G hq dX2_drawnAct_102 rfl (h1 ((drV_5 h7 hV).mpr hm) J2 Q2 (T + 1) T c hF2 hP2 hG2 (by rw [dr_5T h7 hV hm]; exact hD2) (by rw [dr_5T h7 hV hm]; exact hV.opens hm (iN_ti (by omega)) hxn))
    · intro hm
      exact z_zret G hq dX2_drawnAct_102 rfl (h0 (fun z => hm ((drV_5 h7 hV).mp z)) I P T t c FrD.rf FrP.rf hG (by rw [dr_5F h7 hV hm]; exact hD) (by rw [dr_5F h7 hV hm]; exact hV))
  · refine z_tin G 103 dX2_drawnAct_29 (by rw [e]; decide) (by rw [e]; decide) (by rw [e]; rfl) (by decide) ?_
    have h7 : x % 7 = 6 := by rw [iN_lit, iN_eq (by omega) (by omega)] at e; exact e
    refine z_aload_n G dX2_drawnAct_103 rfl ?_
    refine z_getR G fl_X2_21 rfl dX2_drawnAct_104 f1 f4 ?_
    refine z_V G lk_X2_172 dX2_drawnAct_107 [] rfl rfl rfl (Nat.le_of_ble_eq_true rfl) ⟨Nat.le_refl _, Nat.le_refl _⟩ hG.1.1 ?_
    refine k_X1_closeNow hG hD hV ?_ ?_
    · intro hm J2 Q2 hF2 hP2 hG2 hD2
      refine z_pop G dX2_drawnAct_110 rfl ?_
      refine z_iconst G (v := 0) dX2_drawnAct_111 (by decide) ?_
      exact z_zret G hq dX2_drawnAct_112 rfl (h0 (drV_o (Or.inr (Or.inr h7))) J2 Q2 (T - 1) _ _ hF2 hP2 hG2 (by rw [dr_6T h7 hV hm]; exact hD2) (by rw [dr_6T h7 hV hm]; exact hV.closes hm))
    · intro hm
      refine z_pop G dX2_drawnAct_110 rfl ?_
      refine z_iconst G (v := 0) dX2_drawnAct_111 (by decide) ?_
      exact z_zret G hq dX2_drawnAct_112 rfl (h0 (drV_o (Or.inr (Or.inr h7))) I P T t c FrD.rf FrP.rf hG (by rw [dr_6F h7 hV hm]; exact hD) (by rw [dr_6F h7 hV hm]; exact hV))
set_option maxHeartbeats 1000000 in
set_option maxRecDepth 20000 in
theorem k_X2_spendEvening {E : pmE} {d : Nat} {S : pmS} {I : pmI} {P : pmP} {R : Option Value → pmS → pmI → pmP → Prop} (hX : XG S P) {n T t c : Nat} {w : Nat → Int32} (hD : DR I P 30 w T c) (hV : Vd w n T t c) (hW : WR I 27 w n) {k x : Nat} {nn seed : Int32} (hk : nn.toInt = (k : Int)) (hx : seed.toInt = (x : Int)) (h : ∀ (J : pmI) (Q : pmP) (T9 t9 c9 : Nat), FrD I J 556 → FrP P Q 556 → XG S Q → DR J Q 556 (drW k w x) T9 c9 → Vd (drW k w x) n T9 t9 c9 → R (some (.int (drC k w x 0))) S J Q) : pmX E (d + 5) 0 0 yX2_spendEvening [rr E 553, rr E 27, rr E 30, .int nn, .int seed] S I P R := by
  refine pm_of (by decide) cd_X2_spendEvening (by decide) (by decide) (Nat.le_of_ble_eq_true rfl) ?_
  intro C G hq
  obtain ⟨⟨a0, a1, a2, a3, a4, a5, a6, a7, a8⟩, hRG, hRdG, hWG, hDG, ⟨z1, z2, z3, z4⟩, hIG, hFG, hAG⟩ := id hX
  obtain ⟨v1, v2, v3, v4, v5, v6, v7, v8⟩ := id hV
  obtain ⟨f1, ⟨f2, f3, f4, f5, f6, f7, f8, f9⟩, f10, f11, f12, f13, f14, f15, f16, f17, f18⟩ := id hFG
  have hx32 := ti_hi seed
  have hk32 := ti_hi nn
  have loop : ∀ (r y z : Nat) (u a : Int32) (J : pmI) (Q : pmP) (v : Nat → Int32) (T t c : Nat), u.toInt = (y : Int) → y + r = k → z < 2147483648 → FrD I J 556 → FrP P Q 556 → XG S Q → DR J Q 556 v T c → Vd v n T t c → WR J 27 v n → drW r v z = drW k w x → drC r v z a = drC k w x 0 → pmZ E C 19 [some (rr E 553), some (rr E 27), some (rr E 30), some (.int nn), some (.int seed), some (.long (iL z)), none, some (.int a), some (.int u)] [] S J Q 0 0 := by
    intro r
    induction r with
    | zero =>
      intro y z u a J Q v T t c hu hr hz hFJ hPQ hXQ hDJ hVJ hWJ e1 e2
      subst e1
      obtain rfl : y = k := by omega
      refine z_iload G dX2_spendEvening_19 rfl ?_
      refine z_iload_n G dX2_spendEvening_21 rfl ?_
      refine z_icmp_ge G 64 dX2_spendEvening_22 (by decide) (fun _ => ?_) (fun c => absurd c (fun z => z (by simp (disch := omega) only [iN_lit, iN_add, iN_sub, iN_mul, iN_an, iN_le, iN_lt, iN_eq, iN_of hu, iN_of hk] <;> omega)))
      refine z_iload G dX2_spendEvening_64 rfl ?_
      exact z_iret G hq dX2_spendEvening_66 (by rw [show a = drC y w x 0 from e2]; exact h J Q T t c hFJ hPQ hXQ hDJ hVJ)
    | succ r ih =>
      intro y z u a J Q v T t c hu hr hz hFJ hPQ hXQ hDJ hVJ hWJ e1 e2
      have hlt := nextX_lt (x := z)
      refine z_iload G dX2_spendEvening_19 rfl ?_
      refine z_iload_n G dX2_spendEvening_21 rfl ?_
      refine z_icmp_ge G 64 dX2_spendEvening_22 (by decide) (fun c => absurd c (by simp (disch := omega) only [iN_lit, iN_add, iN_sub, iN_mul, iN_an, iN_le, iN_lt, iN_eq, iN_of hu, iN_of hk]; omega)) (fun _ => ?_)
      refine z_lload G dX2_spendEvening_25 rfl ?_
      refine z_ldc2 G ct_X2_152 dX2_spendEvening_27 ?_
      refine z_lmul G dX2_spendEvening_30 ?_
      refine z_ldc2 G ct_X2_154 dX2_spendEvening_31 ?_
      refine z_lrem G dX2_spendEvening_34 (by decide) ?_
      refine z_topL (y := iL (nextX z)) (by rw [show (16807 : Int64) = iL 16807 from rfl, show (2147483647 : Int64) = iL 2147483647 from rfl, iL_mul, iL_rem (by omega) (by omega)]; rfl) ?_
      refine z_lstore G dX2_spendEvening_35 (Nat.le_of_ble_eq_true rfl) rfl ?_
      refine z_iload G dX2_spendEvening_37 rfl ?_
      refine z_aload_n G dX2_spendEvening_39 rfl ?_
      refine z_aload_n G dX2_spendEvening_40 rfl ?_
      refine z_lload G dX2_spendEvening_41 rfl ?_
      refine z_l2i G dX2_spendEvening_43 ?_
      rw [iL_i (by omega)]
      refine z_V G lk_X2_156 dX2_spendEvening_44 [_, _] rfl rfl rfl (Nat.le_of_ble_eq_true rfl) ⟨Nat.le_refl _, Nat.le_refl _⟩ f1 ?_
      refine k_X2_drawnAct hXQ hDJ hVJ hWJ (by omega) ?_ ?_
      · intro hdr J2 Q2 T9 t9 c9 hF2 hP2 hG2 hD2 hV2
        refine z_if_eq G 54 dX2_spendEvening_47 (by decide) (fun c => absurd c (by decide)) (fun _ => ?_)
        refine z_iconst G (v := 1) dX2_spendEvening_50 (by decide) ?_
        refine z_goto G 55 dX2_spendEvening_51 (by decide) ?_
        refine z_iadd G dX2_spendEvening_55 ?_
        refine z_istore G dX2_spendEvening_56 (Nat.le_of_ble_eq_true rfl) rfl ?_
        refine z_iinc G (v := 1) dX2_spendEvening_58 (by decide) rfl rfl ?_
        refine z_goto G 19 dX2_spendEvening_61 (by decide) ?_
        obtain ⟨_, hk1, _⟩ := hVJ.drK (x := nextX z)
        refine ih (y + 1) (nextX z) _ _ J2 Q2 (drS v (nextX z)) T9 t9 c9 (by simp (disch := omega) only [iN_lit, iN_add, iN_sub, iN_mul, iN_an, iN_of hu]; exact iN_ti2 (by omega) (by omega)) (by omega) (by omega) (hFJ.tr hF2) (hPQ.tr hP2) (hXQ.fr (Or.inr rfl) hP2 hG2) hD2 hV2 ((hWJ.congr (fun q a b => hF2 q (by omega))).congrW hVJ.2.2.2.2.1 hVJ.1.2.2 hk1.1 hk1.2) e1 ?_
        have e3 : drC r (drS v (nextX z)) (nextX z) (a + @ite Int32 (drV v (nextX z)) (Classical.propDecidable _) 1 0) = drC k w x 0 := e2
        rw [if_pos hdr] at e3
        exact e3
      · intro hdr J2 Q2 T9 t9 c9 hF2 hP2 hG2 hD2 hV2
        refine z_if_eq G 54 dX2_spendEvening_47 (by decide) (fun _ => ?_) (fun c => absurd c (by decide))
        refine z_iconst G (v := 0) dX2_spendEvening_54 (by decide) ?_
        refine z_iadd G dX2_spendEvening_55 ?_
        refine z_istore G dX2_spendEvening_56 (Nat.le_of_ble_eq_true rfl) rfl ?_
        refine z_iinc G (v := 1) dX2_spendEvening_58 (by decide) rfl rfl ?_
        refine z_goto G 19 dX2_spendEvening_61 (by decide) ?_
        obtain ⟨_, hk1, _⟩ := hVJ.drK (x := nextX z)
        refine ih (y + 1) (nextX z) _ _ J2 Q2 (drS v (nextX z)) T9 t9 c9 (by simp (disch := omega) only [iN_lit, iN_add, iN_sub, iN_mul, iN_an, iN_of hu]; exact iN_ti2 (by omega) (by omega)) (by omega) (by omega) (hFJ.tr hF2) (hPQ.tr hP2) (hXQ.fr (Or.inr rfl) hP2 hG2) hD2 hV2 ((hWJ.congr (fun q a b => hF2 q (by omega))).congrW hVJ.2.2.2.2.1 hVJ.1.2.2 hk1.1 hk1.2) e1 ?_
        have e3 : drC r (drS v (nextX z)) (nextX z) (a + @ite Int32 (drV v (nextX z)) (Classical.propDecidable _) 1 0) = drC k w x 0 := e2
        rw [if_neg hdr] at e3
        exact e3
  refine z_aload_n G dX2_spendEvening_0 rfl ?_
  refine z_getR G fl_X2_21 rfl dX2_spendEvening_1 f1 f4 ?_
  refine z_aload_n G dX2_spendEvening_4 rfl ?_
  refine z_V G lk_X2_150 dX2_spendEvening_5 [_] rfl rfl rfl (Nat.le_of_ble_eq_true rfl) ⟨Nat.le_refl _, Nat.le_refl _⟩ f12.1.1 ?_
  refine k_X1_become f12 hDG (by omega) hD v2.1 v2.2.2 v4.1 v4.2 (fun i hi => (v6 i hi).l6) (fun i hi => (v7 i hi).l6) (fun J hFJ hDJ => ?_)
  refine z_iload G dX2_spendEvening_8 rfl ?_
  rw [iN_of hx]
  refine z_i2l G dX2_spendEvening_10 ?_
  rw [iN_l (by omega)]
  refine z_lstore G dX2_spendEvening_11 (Nat.le_of_ble_eq_true rfl) rfl ?_
  refine z_iconst G (v := 0) dX2_spendEvening_13 (by decide) ?_
  refine z_istore G dX2_spendEvening_14 (Nat.le_of_ble_eq_true rfl) rfl ?_
  refine z_iconst G (v := 0) dX2_spendEvening_16 (by decide) ?_
  refine z_istore G dX2_spendEvening_17 (Nat.le_of_ble_eq_true rfl) rfl ?_
  rw [← iN_of hx]
  exact loop k 0 x 0 0 J P w T t c rfl (by omega) (by omega) hFJ FrP.rf hX hDJ hV (hW.congr (fun q a b => hFJ q (by omega))) rfl rfl
set_option maxHeartbeats 1000000 in
set_option maxRecDepth 20000 in
theorem k_X9_drawn {E : pmE} {d : Nat} {S : pmS} {I : pmI} {P : pmP} {R : Option Value → pmS → pmI → pmP → Prop} (hX : XG S P) {n T t c : Nat} {w : Nat → Int32} (hD : DR I P 30 w T c) (hV : Vd w n T t c) (hW : WR I 27 w n) {nn seed what : Int32} (hb : (¬ ∃ k x e : Nat, nn.toInt = (k : Int) ∧ k ≤ 60 ∧ seed.toInt = (x : Int) ∧ 1 ≤ x ∧ x ≤ 999999 ∧ what.toInt = (e : Int) ∧ e ≤ 1) → R (some (.int (-1000001))) S I P) (h : ∀ (J : pmI) (Q : pmP) (k x : Nat), nn.toInt = (k : Int) → seed.toInt = (x : Int) → FrD I J 556 → FrP P Q 556 → XG S Q → R (some (.int (if what = 0 then drC k w x 0 else iN (seeF (drW k w x))))) S J Q) : pmX E (d + 6) 0 0 yX9_drawn [rr E 0, .int nn, .int seed, .int what] S I P R := by
  refine pm_of (by decide) cd_X9_drawn (by decide) (by decide) (Nat.le_of_ble_eq_true rfl) ?_
  intro C G hq
  obtain ⟨⟨a0, a1, a2, a3, a4, a5, a6, a7, a8⟩, hRG, hRdG, hWG, hDG, ⟨z1, z2, z3, z4⟩, hIG, hFG, hAG⟩ := id hX
  obtain ⟨v1, v2, v3, v4, v5, v6, v7, v8⟩ := id hV
  obtain ⟨f1, ⟨f2, f3, f4, f5, f6, f7, f8, f9⟩, f10, f11, f12, f13, f14, f15, f16, f17, f18⟩ := id hFG
  refine z_aload_n G dX9_drawn_0 rfl ?_
  refine z_V G lk_X9_142 dX9_drawn_1 [] rfl rfl rfl (Nat.le_of_ble_eq_true rfl) ⟨Nat.le_refl _, Nat.le_refl _⟩ (by assumption) ?_
  refine k_X9_stands hX (by rw [hW.1]; exact v1.1) (fun _ => ?_) (fun q => absurd q (by omega))
  refine z_if_ne G 10 dX9_drawn_4 (by decide) (fun _ => ?_) (fun c => absurd c (by decide))
  refine z_iload_n G dX9_drawn_10 rfl ?_
  refine z_if_lt G 41 dX9_drawn_11 (by decide) (fun b11 => ?_) (fun b11 => ?_)
  · refine z_ldc G ct_X9_73 dX9_drawn_41 ?_
    exact z_iret G hq dX9_drawn_43 (hb (fun ⟨k, x, e, q1, q2, q3, q4, q5, q6, q7⟩ => by simp only [ti_lt, ti_le, Int32.reduceToInt] at *; omega))
  · refine z_iload_n G dX9_drawn_14 rfl ?_
    refine z_bipush G (v := 60) dX9_drawn_15 (by decide) ?_
    refine z_icmp_gt G 41 dX9_drawn_17 (by decide) (fun b17 => ?_) (fun b17 => ?_)
    · refine z_ldc G ct_X9_73 dX9_drawn_41 ?_
      exact z_iret G hq dX9_drawn_43 (hb (fun ⟨k, x, e, q1, q2, q3, q4, q5, q6, q7⟩ => by simp only [ti_lt, ti_le, Int32.reduceToInt] at *; omega))
    · refine z_iload_n G dX9_drawn_20 rfl ?_
      refine z_iconst G (v := 1) dX9_drawn_21 (by decide) ?_
      refine z_icmp_lt G 41 dX9_drawn_22 (by decide) (fun b22 => ?_) (fun b22 => ?_)
      · refine z_ldc G ct_X9_73 dX9_drawn_41 ?_
        exact z_iret G hq dX9_drawn_43 (hb (fun ⟨k, x, e, q1, q2, q3, q4, q5, q6, q7⟩ => by simp only [ti_lt, ti_le, Int32.reduceToInt] at *; omega))
      · refine z_iload_n G dX9_drawn_25 rfl ?_
        refine z_ldcw G ct_X9_276 dX9_drawn_26 ?_
        refine z_icmp_gt G 41 dX9_drawn_29 (by decide) (fun b29 => ?_) (fun b29 => ?_)
        · refine z_ldc G ct_X9_73 dX9_drawn_41 ?_
          exact z_iret G hq dX9_drawn_43 (hb (fun ⟨k, x, e, q1, q2, q3, q4, q5, q6, q7⟩ => by simp only [ti_lt, ti_le, Int32.reduceToInt] at *; omega))
        · refine z_iload_n G dX9_drawn_32 rfl ?_
          refine z_if_lt G 41 dX9_drawn_33 (by decide) (fun b33 => ?_) (fun b33 => ?_)
          · refine z_ldc G ct_X9_73 dX9_drawn_41 ?_
            exact z_iret G hq dX9_drawn_43 (hb (fun ⟨k, x, e, q1, q2, q3, q4, q5, q6, q7⟩ => by simp only [ti_lt, ti_le, Int32.reduceToInt] at *; omega))
          · refine z_iload_n G dX9_drawn_36 rfl ?_
            refine z_iconst G (v := 1) dX9_drawn_37 (by decide) ?_
            refine z_icmp_le G 44 dX9_drawn_38 (by decide) (fun b38 => ?_) (fun b38 => ?_)
            · obtain ⟨k, hk1⟩ : ∃ k : Nat, nn.toInt = (k : Int) := ⟨nn.toInt.toNat, by simp only [ti_lt, ti_le, Int32.reduceToInt] at *; omega⟩
              obtain ⟨x, hx1⟩ : ∃ k : Nat, seed.toInt = (k : Int) := ⟨seed.toInt.toNat, by simp only [ti_lt, ti_le, Int32.reduceToInt] at *; omega⟩
              refine z_aload_n G dX9_drawn_44 rfl ?_
              refine z_getR G fl_X9_52 rfl dX9_drawn_45 (by assumption) (by assumption) ?_
              refine z_aload_n G dX9_drawn_48 rfl ?_
              refine z_getR G fl_X9_25 rfl dX9_drawn_49 (by assumption) (by assumption) ?_
              refine z_aload_n G dX9_drawn_52 rfl ?_
              refine z_getR G fl_X9_32 rfl dX9_drawn_53 (by assumption) (by assumption) ?_
              refine z_iload_n G dX9_drawn_56 rfl ?_
              refine z_iload_n G dX9_drawn_57 rfl ?_
              refine z_V G lk_X9_277 dX9_drawn_58 [_, _, _, _] rfl rfl rfl (Nat.le_of_ble_eq_true rfl) ⟨Nat.le_refl _, Nat.le_refl _⟩ f1 ?_
              refine k_X2_spendEvening hX hD hV hW hk1 hx1 (fun J Q T9 t9 c9 hFJ hPQ hXQ hDQ hVQ => ?_)
              obtain ⟨⟨a0', a1', a2', a3', a4', a5', a6', a7', a8'⟩, _, _, _, _, _, _, hFG', _⟩ := id hXQ
              obtain ⟨f1', ⟨f2', f3', f4', f5', f6', f7', f8', f9'⟩, f10', f11', f12', _⟩ := id hFG'
              obtain ⟨s9, p9, hN9, hp9⟩ := hVQ.nw
              refine z_istore G dX9_drawn_61 (Nat.le_of_ble_eq_true rfl) rfl ?_
              refine z_iload_n G dX9_drawn_63 rfl ?_
              refine z_if_ne G 72 dX9_drawn_64 (by decide) (fun b64 => ?_) (fun b64 => ?_)
              · refine z_aload_n G dX9_drawn_72 rfl ?_
                refine z_getR G fl_X9_52 rfl dX9_drawn_73 a0' a7' ?_
                refine z_getR G fl_X9_281 rfl dX9_drawn_76 f1' f4' ?_
                refine z_V G lk_X9_160 dX9_drawn_79 [] rfl rfl rfl (Nat.le_of_ble_eq_true rfl) ⟨Nat.le_refl _, Nat.le_refl _⟩ f12'.1.1 ?_
                refine k_X1_shownPage f12' hDQ hVQ hN9 ?_
                rw [iN_of hN9.2.2.2.2.1, ← hN9.see]
                exact z_iret G hq dX9_drawn_82 (by have := h J Q k x hk1 hx1 hFJ hPQ hXQ; rw [if_neg b64] at this; exact this)
              · refine z_iload G dX9_drawn_67 rfl ?_
                refine z_goto G 82 dX9_drawn_69 (by decide) ?_
                exact z_iret G hq dX9_drawn_82 (by have := h J Q k x hk1 hx1 hFJ hPQ hXQ; rw [if_pos b64] at this; exact this)
            · refine z_ldc G ct_X9_73 dX9_drawn_41 ?_
              exact z_iret G hq dX9_drawn_43 (hb (fun ⟨k, x, e, q1, q2, q3, q4, q5, q6, q7⟩ => by simp only [ti_lt, ti_le, Int32.reduceToInt] at *; omega))
set_option maxHeartbeats 1000000 in
set_option maxRecDepth 20000 in
theorem k_X10_steps {E : pmE} {d : Nat} {S : pmS} {I : pmI} {P : pmP} {R : Option Value → pmS → pmI → pmP → Prop} {m : Nat} (hM : MG S P m) {n T t c x : Nat} {w : Nat → Int32} (hw : I (m + 8) = w) (hV : Vd w n T t c) (hx : x < 2147483648) (h1 : drV w x → ∀ J, J = va_up I (m + 8) (drS w x) → R (some (.int 1)) S J P) (h0 : ¬ drV w x → ∀ J, J = va_up I (m + 8) (drS w x) → R (some (.int 0)) S J P) : pmX E (d + 4) 0 0 yX10_steps [rr E m, .long (iL x)] S I P R := by
  refine pm_of (by decide) cd_X10_steps (by decide) (by decide) (Nat.le_of_ble_eq_true rfl) ?_
  intro C G hq
  obtain ⟨g0, ⟨r0, r1, r2, r3, r4, r5, r6, r7, r8, r9, r10, r11, r12, r13, r14⟩, ⟨s1, s2, s3, s4, s5, s6, s7, s8, s9, s10, s11, s12, s13, s14, s15⟩⟩ := id hM
  subst hw
  have hx7 := Nat.mod_lt x (show 0 < 7 by omega)
  have hT5 := hV.2.1.2.2
  have hT1 := hV.2.1.2.1
  have hn8 := hV.1.2.2
  have hn2 := hV.1.2.1
  obtain ⟨s, p, hN, hpn⟩ := hV.nw
  obtain ⟨cn, c1, c2, c3, c4⟩ := hV.2.2.2.2.1 p hpn
  refine z_lload_n G dX10_steps_0 rfl ?_
  refine z_ldc2 G ct_X10_231 dX10_steps_1 ?_
  refine z_lrem G dX10_steps_4 (by decide) ?_
  refine z_topL (y := iL (x % 7)) (iL_rem (b := 7) (by omega) (by omega)) ?_
  refine z_l2i G dX10_steps_5 ?_
  rw [iL_i (by omega)]
  refine z_istore_n G dX10_steps_6 (Nat.le_of_ble_eq_true rfl) rfl ?_
  refine z_iload_n G dX10_steps_7 rfl ?_
  refine z_iconst G (v := 3) dX10_steps_8 (by decide) ?_
  refine z_icmp_ge G 38 dX10_steps_9 (by decide) (fun b9 => ?_) (fun b9 => ?_)
  · have h7 : ¬ x % 7 < 3 := by rw [iN_lit, iN_le (by omega) (by omega)] at b9; omega
    refine z_iload_n G dX10_steps_38 rfl ?_
    have hsw : ((iN (x % 7)).toInt < 3 ∨ 5 < (iN (x % 7)).toInt) ∨ (iN (x % 7)) = 3 ∨ (iN (x % 7)) = 4 ∨ (iN (x % 7)) = 5 := by simp only [ti_eq, Int32.reduceToInt]; omega
    rcases hsw with e | e | e | e
    · refine z_tout G 145 dX10_steps_39 e (by decide) ?_
      have h76 : x % 7 = 6 := by rw [iN_ti (by omega)] at e; omega
      refine z_aload_n G dX10_steps_145 rfl ?_
      refine z_getR G fl_X10_31 rfl dX10_steps_146 (by assumption) (by assumption) ?_
      refine z_iconst G (v := 1) dX10_steps_149 (by decide) ?_
      refine z_iald G (1) dX10_steps_150 (by assumption) (rfl) (by omega) ?_
      rw [iN_of hV.2.1.1]
      refine z_iconst G (v := 1) dX10_steps_151 (by decide) ?_
      refine z_icmp_le G 162 dX10_steps_152 (by decide) (fun b152 => ?_) (fun b152 => ?_)
      · refine z_iconst G (v := 0) dX10_steps_162 (by decide) ?_
        exact z_zret G hq dX10_steps_163 rfl (h0 (drV_o (Or.inr (Or.inr h76))) _ (by rw [dr_6F h76 hV (by rw [iN_lit, iN_le (by omega) (by omega)] at b152; omega), va_up_id]))
      · refine z_aload_n G dX10_steps_155 rfl ?_
        refine z_getR G fl_X10_31 rfl dX10_steps_156 (by assumption) (by assumption) ?_
        have hT : 2 ≤ T := by rw [iN_lit, iN_le (by omega) (by omega)] at b152; omega
        refine z_S G lk_X10_211 dX10_steps_159 [_] rfl rfl rfl (Nat.le_of_ble_eq_true rfl) ⟨Nat.le_refl _, Nat.le_refl _⟩ ?_
        refine k_X10_closes s8 hV.2.1.1 hV.2.1.2.2 hT hV.2.2.1.1 hV.2.2.1.2 hV.2.2.2.1.1 hV.2.2.2.1.2 ?_
        refine z_iconst G (v := 0) dX10_steps_162 (by decide) ?_
        exact z_zret G hq dX10_steps_163 rfl (h0 (drV_o (Or.inr (Or.inr h76))) _ (by rw [dr_6T h76 hV hT]))
    · refine z_tin G 64 dX10_steps_39 (by rw [e]; decide) (by rw [e]; decide) (by rw [e]; rfl) (by decide) ?_
      have h73 : x % 7 = 3 := by rw [iN_lit, iN_eq (by omega) (by omega)] at e; exact e
      refine z_aload_n G dX10_steps_64 rfl ?_
      refine z_getR G fl_X10_31 rfl dX10_steps_65 (by assumption) (by assumption) ?_
      refine z_iconst G (v := 0) dX10_steps_68 (by decide) ?_
      refine z_S G lk_X10_193 dX10_steps_69 [_, _] rfl rfl rfl (Nat.le_of_ble_eq_true rfl) ⟨Nat.le_refl _, Nat.le_refl _⟩ ?_
      refine k_X10_mayGo s8 (t := t) hN.1 hN.2.1 ?_ ?_
      · intro hm
        rw [if_pos rfl] at hm
        refine z_if_eq G 83 dX10_steps_72 (by decide) (fun c => absurd c (by decide)) (fun _ => ?_)
        refine z_aload_n G dX10_steps_75 rfl ?_
        refine z_getR G fl_X10_31 rfl dX10_steps_76 (by assumption) (by assumption) ?_
        refine z_iconst G (v := 0) dX10_steps_79 (by decide) ?_
        refine z_S G lk_X10_196 dX10_steps_80 [_, _] rfl rfl rfl (Nat.le_of_ble_eq_true rfl) ⟨Nat.le_refl _, Nat.le_refl _⟩ ?_
        refine k_X10_goes s8 (t := t) hN.1 hN.2.1 ?_
        refine z_iconst G (v := 0) dX10_steps_83 (by decide) ?_
        exact z_zret G hq dX10_steps_84 rfl (h0 (drV_o (Or.inl h73)) _ (by rw [dr_3T h73 (hV.mayB.mpr hm), hV.doG (by omega)]; rfl))
      · intro hm
        rw [if_pos rfl] at hm
        refine z_if_eq G 83 dX10_steps_72 (by decide) (fun _ => ?_) (fun c => absurd c (by decide))
        refine z_iconst G (v := 0) dX10_steps_83 (by decide) ?_
        exact z_zret G hq dX10_steps_84 rfl (h0 (drV_o (Or.inl h73)) _ (by rw [dr_3F h73 (fun z => hm (hV.mayB.mp z)), va_up_id]))
    · refine z_tin G 85 dX10_steps_39 (by rw [e]; decide) (by rw [e]; decide) (by rw [e]; rfl) (by decide) ?_
      have h74 : x % 7 = 4 := by rw [iN_lit, iN_eq (by omega) (by omega)] at e; exact e
      have hxT := Nat.mod_lt x (show 0 < T by omega)
      refine z_aload_n G dX10_steps_85 rfl ?_
      refine z_getR G fl_X10_31 rfl dX10_steps_86 (by assumption) (by assumption) ?_
      refine z_iconst G (v := 2) dX10_steps_89 (by decide) ?_
      refine z_lload_n G dX10_steps_90 rfl ?_
      refine z_aload_n G dX10_steps_91 rfl ?_
      refine z_getR G fl_X10_31 rfl dX10_steps_92 (by assumption) (by assumption) ?_
      refine z_iconst G (v := 1) dX10_steps_95 (by decide) ?_
      refine z_iald G (1) dX10_steps_96 (by assumption) (rfl) (by omega) ?_
      rw [iN_of hV.2.1.1]
      refine z_i2l G dX10_steps_97 ?_
      rw [iN_l (by omega)]
      refine z_lrem G dX10_steps_98 (fun z => by have := congrArg Int64.toInt z; rw [iL_ti (by omega)] at this; have h9 : ((0 : Int64)).toInt = 0 := rfl; rw [h9] at this; omega) ?_
      refine z_topL (y := iL (x % T)) (iL_rem (by omega) (by omega)) ?_
      refine z_l2i G dX10_steps_99 ?_
      rw [iL_i (by omega)]
      refine z_iast G (2) dX10_steps_100 (by assumption) (rfl) (by omega) ?_
      refine z_iconst G (v := 0) dX10_steps_101 (by decide) ?_
      exact z_zret G hq dX10_steps_102 rfl (h0 (drV_o (Or.inr (Or.inl h74))) _ (by rw [dr_4 h74 hV]))
    · refine z_tin G 103 dX10_steps_39 (by rw [e]; decide) (by rw [e]; decide) (by rw [e]; rfl) (by decide) ?_
      have h75 : x % 7 = 5 := by rw [iN_lit, iN_eq (by omega) (by omega)] at e; exact e
      have hxn := Nat.mod_lt x (show 0 < n by omega)
      refine z_aload_n G dX10_steps_103 rfl ?_
      refine z_getR G fl_X10_31 rfl dX10_steps_104 (by assumption) (by assumption) ?_
      refine z_iconst G (v := 1) dX10_steps_107 (by decide) ?_
      refine z_iald G (1) dX10_steps_108 (by assumption) (rfl) (by omega) ?_
      rw [iN_of hV.2.1.1]
      refine z_iconst G (v := 5) dX10_steps_109 (by decide) ?_
      refine z_icmp_ge G 117 dX10_steps_110 (by decide) (fun b110 => ?_) (fun b110 => ?_)
      · have hT : ¬ T < 5 := by rw [iN_lit, iN_le (by omega) (by omega)] at b110; omega
        refine z_iconst G (v := 0) dX10_steps_117 (by decide) ?_
        refine z_istore G dX10_steps_118 (Nat.le_of_ble_eq_true rfl) rfl ?_
        refine z_iload G dX10_steps_120 rfl ?_
        refine z_if_eq G 142 dX10_steps_122 (by decide) (fun _ => ?_) (fun c => absurd c (by decide))
        refine z_iload G dX10_steps_142 rfl ?_
        exact z_zret G hq dX10_steps_144 rfl (h0 (fun z => hT ((drV_5 h75 hV).mp z)) _ (by rw [dr_5F h75 hV hT, va_up_id]))
      · have hT : T < 5 := by rw [iN_lit, iN_le (by omega) (by omega)] at b110; omega
        refine z_iconst G (v := 1) dX10_steps_113 (by decide) ?_
        refine z_goto G 118 dX10_steps_114 (by decide) ?_
        refine z_istore G dX10_steps_118 (Nat.le_of_ble_eq_true rfl) rfl ?_
        refine z_iload G dX10_steps_120 rfl ?_
        refine z_if_eq G 142 dX10_steps_122 (by decide) (fun c => absurd c (by decide)) (fun _ => ?_)
        refine z_aload_n G dX10_steps_125 rfl ?_
        refine z_getR G fl_X10_31 rfl dX10_steps_126 (by assumption) (by assumption) ?_
        refine z_lload_n G dX10_steps_129 rfl ?_
        refine z_aload_n G dX10_steps_130 rfl ?_
        refine z_getR G fl_X10_31 rfl dX10_steps_131 (by assumption) (by assumption) ?_
        refine z_iconst G (v := 0) dX10_steps_134 (by decide) ?_
        refine z_iald G (0) dX10_steps_135 (by assumption) (rfl) (by omega) ?_
        rw [iN_of hV.1.1]
        refine z_i2l G dX10_steps_136 ?_
        rw [iN_l (by omega)]
        refine z_lrem G dX10_steps_137 (fun z => by have := congrArg Int64.toInt z; rw [iL_ti (by omega)] at this; have h9 : ((0 : Int64)).toInt = 0 := rfl; rw [h9] at this; omega) ?_
        refine z_topL (y := iL (x % n)) (iL_rem (by omega) (by omega)) ?_
        refine z_l2i G dX10_steps_138 ?_
        rw [iL_i (by omega)]
        refine z_S G lk_X10_208 dX10_steps_139 [_, _] rfl rfl rfl (Nat.le_of_ble_eq_true rfl) ⟨Nat.le_refl _, Nat.le_refl _⟩ ?_
        refine k_X10_opens s8 hV hT (iN_ti (by omega)) hxn ?_
        refine z_iload G dX10_steps_142 rfl ?_
        exact z_zret G hq dX10_steps_144 rfl (h1 ((drV_5 h75 hV).mpr hT) _ (by rw [dr_5T h75 hV hT]))
  · have h7 : x % 7 < 3 := by rw [iN_lit, iN_le (by omega) (by omega)] at b9; omega
    refine z_aload_n G dX10_steps_12 rfl ?_
    refine z_getR G fl_X10_31 rfl dX10_steps_13 (by assumption) (by assumption) ?_
    refine z_iload_n G dX10_steps_16 rfl ?_
    refine z_S G lk_X10_183 dX10_steps_17 [_, _] rfl rfl rfl (Nat.le_of_ble_eq_true rfl) ⟨Nat.le_refl _, Nat.le_refl _⟩ ?_
    refine k_X10_mayFollow s8 (t := t) (s := s) (p := p) hN ?_ ?_
    · intro hm
      have hmm : x % 7 < cn ∧ (¬ I (m + 8) (44 + 10 * t) = 3 ∨ T < 5) := ⟨by have := hm.1; rw [iN_of c1, iN_lt (by omega) (by omega)] at this; exact this, hm.2.imp id (fun z => by rw [iN_of hV.2.1.1, iN_lit, iN_lt (by omega) (by omega)] at z; exact z)⟩
      have hm2 : mayP (I (m + 8)) (x % 7 + 2) := (hV.mayL hN c1 (by omega)).mpr hmm
      refine z_istore G dX10_steps_20 (Nat.le_of_ble_eq_true rfl) rfl ?_
      refine z_iload G dX10_steps_22 rfl ?_
      refine z_if_eq G 35 dX10_steps_24 (by decide) (fun c => absurd c (by decide)) (fun _ => ?_)
      refine z_aload_n G dX10_steps_27 rfl ?_
      refine z_getR G fl_X10_31 rfl dX10_steps_28 (by assumption) (by assumption) ?_
      refine z_iload_n G dX10_steps_31 rfl ?_
      refine z_S G lk_X10_190 dX10_steps_32 [_, _] rfl rfl rfl (Nat.le_of_ble_eq_true rfl) ⟨Nat.le_refl _, Nat.le_refl _⟩ ?_
      refine k_X10_follows s8 (n := n) (T := T) (t := t) (c := c) (s := s) (p := p) (cn := cn) (jn := x % 7) hV hN hpn (iN_ti (by omega)) c1 hmm.1 hmm.2 ?_
      refine z_iload G dX10_steps_35 rfl ?_
      exact z_zret G hq dX10_steps_37 rfl (h1 (drV_y h7 hm2) _ (by rw [dr_T h7 hm2, hV.doL hN (by omega)]; rfl))
    · intro hm
      have hm2 : ¬ mayP (I (m + 8)) (x % 7 + 2) := fun z => hm (by have := (hV.mayL hN c1 (by omega)).mp z; exact ⟨by rw [iN_of c1, iN_lt (by omega) (by omega)]; exact this.1, this.2.imp id (fun z => by rw [iN_of hV.2.1.1, iN_lit, iN_lt (by omega) (by omega)]; exact z)⟩)
      refine z_istore G dX10_steps_20 (Nat.le_of_ble_eq_true rfl) rfl ?_
      refine z_iload G dX10_steps_22 rfl ?_
      refine z_if_eq G 35 dX10_steps_24 (by decide) (fun _ => ?_) (fun c => absurd c (by decide))
      refine z_iload G dX10_steps_35 rfl ?_
      exact z_zret G hq dX10_steps_37 rfl (h0 (drV_n h7 hm2) _ (by rw [dr_F h7 hm2, va_up_id]))
set_option maxHeartbeats 1000000 in
set_option maxRecDepth 20000 in
theorem k_X10_drawn {E : pmE} {d : Nat} {S : pmS} {I : pmI} {P : pmP} {R : Option Value → pmS → pmI → pmP → Prop} {m : Nat} (hM : MG S P m) {n T t c : Nat} {w : Nat → Int32} (hw : I (m + 6) = w) (hV : Vd w n T t c) {old : Nat → Int32} (hold : ∀ i, 124 ≤ i → I (m + 8) i = old i) {nn seed what : Int32} (hb : (¬ ∃ k x e : Nat, nn.toInt = (k : Int) ∧ k ≤ 60 ∧ seed.toInt = (x : Int) ∧ 1 ≤ x ∧ x ≤ 999999 ∧ what.toInt = (e : Int) ∧ e ≤ 1) → R (some (.int (-1000001))) S I P) (h : ∀ (J : pmI) (k x : Nat), nn.toInt = (k : Int) → seed.toInt = (x : Int) → (∀ k, k ≠ m + 8 → J k = I k) → (∀ i, 124 ≤ i → J (m + 8) i = old i) → R (some (.int (if what = 0 then drC k (va_cpy w old 0 0 124) x 0 else iN (seeF (drW k (va_cpy w old 0 0 124) x))))) S J P) : pmX E (d + 5) 0 0 yX10_drawn [rr E m, .int nn, .int seed, .int what] S I P R := by
  refine pm_of (by decide) cd_X10_drawn (by decide) (by decide) (Nat.le_of_ble_eq_true rfl) ?_
  intro C G hq
  obtain ⟨g0, ⟨r0, r1, r2, r3, r4, r5, r6, r7, r8, r9, r10, r11, r12, r13, r14⟩, ⟨s1, s2, s3, s4, s5, s6, s7, s8, s9, s10, s11, s12, s13, s14, s15⟩⟩ := id hM
  obtain ⟨v1, v2, v3, v4, v5, v6, v7, v8⟩ := id hV
  have hk32 := ti_hi nn
  have loop : ∀ (k x : Nat), nn.toInt = (k : Int) → seed.toInt = (x : Int) → ∀ (r y z : Nat) (u a : Int32) (J : pmI) (v : Nat → Int32) (T t c : Nat), u.toInt = (y : Int) → y + r = k → z < 2147483648 → (∀ k, k ≠ m + 8 → J k = I k) → (∀ i, 124 ≤ i → J (m + 8) i = old i) → J (m + 8) = v → Vd v n T t c → drW r v z = drW k (va_cpy w old 0 0 124) x → drC r v z a = drC k (va_cpy w old 0 0 124) x 0 → pmZ E C 65 [some (rr E m), some (.int nn), some (.int seed), some (.int what), some (.long (iL z)), none, some (.int a), some (.int u)] [] S J P 0 0 := by
    intro k x hk hx r
    induction r with
    | zero =>
      intro y z u a J v T t c hu hr hz hJ hh hJv hVv e1 e2
      obtain rfl : y = k := by omega
      subst hJv
      obtain ⟨s9, p9, hN9, hp9⟩ := hVv.nw
      have e3 : J (m + 8) = drW y (va_cpy w old 0 0 124) x := e1
      refine z_iload G dX10_drawn_65 rfl ?_
      refine z_iload_n G dX10_drawn_67 rfl ?_
      refine z_icmp_ge G 108 dX10_drawn_68 (by decide) (fun _ => ?_) (fun c => absurd c (fun z => z (by simp (disch := omega) only [iN_lit, iN_add, iN_sub, iN_mul, iN_an, iN_le, iN_lt, iN_eq, iN_of hu, iN_of hk] <;> omega)))
      refine z_iload_n G dX10_drawn_108 rfl ?_
      refine z_if_ne G 117 dX10_drawn_109 (by decide) (fun b109 => ?_) (fun b109 => ?_)
      · refine z_aload_n G dX10_drawn_117 rfl ?_
        refine z_getR G fl_X10_31 rfl dX10_drawn_118 (by assumption) (by assumption) ?_
        refine z_S G lk_X10_157 dX10_drawn_121 [_] rfl rfl rfl (Nat.le_of_ble_eq_true rfl) ⟨Nat.le_refl _, Nat.le_refl _⟩ ?_
        refine k_X10_seen s8 hN9 ?_
        rw [iN_of hN9.2.2.2.2.1, ← hN9.see, e3]
        exact z_iret G hq dX10_drawn_124 (by have := h J y x hk hx hJ hh; rw [if_neg b109] at this; exact this)
      · refine z_iload G dX10_drawn_112 rfl ?_
        refine z_goto G 124 dX10_drawn_114 (by decide) ?_
        exact z_iret G hq dX10_drawn_124 (by have := h J y x hk hx hJ hh; rw [if_pos b109, ← e2] at this; exact this)
    | succ r ih =>
      intro y z u a J v T t c hu hr hz hJ hh hJv hVv e1 e2
      have hlt := nextX_lt (x := z)
      obtain ⟨⟨T9, t9, c9, hV9⟩, _, hk2⟩ := hVv.drK (x := nextX z)
      refine z_iload G dX10_drawn_65 rfl ?_
      refine z_iload_n G dX10_drawn_67 rfl ?_
      refine z_icmp_ge G 108 dX10_drawn_68 (by decide) (fun c => absurd c (by simp (disch := omega) only [iN_lit, iN_add, iN_sub, iN_mul, iN_an, iN_le, iN_lt, iN_eq, iN_of hu, iN_of hk]; omega)) (fun _ => ?_)
      refine z_lload G dX10_drawn_71 rfl ?_
      refine z_ldc2 G ct_X10_234 dX10_drawn_73 ?_
      refine z_lmul G dX10_drawn_76 ?_
      refine z_ldc2 G ct_X10_236 dX10_drawn_77 ?_
      refine z_lrem G dX10_drawn_80 (by decide) ?_
      refine z_topL (y := iL (nextX z)) (by rw [show (16807 : Int64) = iL 16807 from rfl, show (2147483647 : Int64) = iL 2147483647 from rfl, iL_mul, iL_rem (by omega) (by omega)]; rfl) ?_
      refine z_lstore G dX10_drawn_81 (Nat.le_of_ble_eq_true rfl) rfl ?_
      refine z_iload G dX10_drawn_83 rfl ?_
      refine z_aload_n G dX10_drawn_85 rfl ?_
      refine z_lload G dX10_drawn_86 rfl ?_
      refine z_V G lk_X10_238 dX10_drawn_88 [_] rfl rfl rfl (Nat.le_of_ble_eq_true rfl) ⟨Nat.le_refl _, Nat.le_refl _⟩ (by assumption) ?_
      refine k_X10_steps hM hJv hVv (by omega) ?_ ?_
      · intro hdr J2 hJ2
        refine z_if_eq G 98 dX10_drawn_91 (by decide) (fun c => absurd c (by decide)) (fun _ => ?_)
        refine z_iconst G (v := 1) dX10_drawn_94 (by decide) ?_
        refine z_goto G 99 dX10_drawn_95 (by decide) ?_
        refine z_iadd G dX10_drawn_99 ?_
        refine z_istore G dX10_drawn_100 (Nat.le_of_ble_eq_true rfl) rfl ?_
        refine z_iinc G (v := 1) dX10_drawn_102 (by decide) rfl rfl ?_
        refine z_goto G 65 dX10_drawn_105 (by decide) ?_
        refine ih (y + 1) (nextX z) _ _ J2 (drS v (nextX z)) T9 t9 c9 (by simp (disch := omega) only [iN_lit, iN_add, iN_sub, iN_mul, iN_an, iN_of hu]; exact iN_ti2 (by omega) (by omega)) (by omega) (by omega) (fun q a => by rw [hJ2, va_ne' a]; exact hJ q a) (fun i hi => by rw [hJ2, va_at' rfl, hk2 i hi, ← hJv]; exact hh i hi) (by rw [hJ2, va_at' rfl]) hV9 e1 ?_
        have e3 : drC r (drS v (nextX z)) (nextX z) (a + @ite Int32 (drV v (nextX z)) (Classical.propDecidable _) 1 0) = drC k (va_cpy w old 0 0 124) x 0 := e2
        rw [if_pos hdr] at e3
        exact e3
      · intro hdr J2 hJ2
        refine z_if_eq G 98 dX10_drawn_91 (by decide) (fun _ => ?_) (fun c => absurd c (by decide))
        refine z_iconst G (v := 0) dX10_drawn_98 (by decide) ?_
        refine z_iadd G dX10_drawn_99 ?_
        refine z_istore G dX10_drawn_100 (Nat.le_of_ble_eq_true rfl) rfl ?_
        refine z_iinc G (v := 1) dX10_drawn_102 (by decide) rfl rfl ?_
        refine z_goto G 65 dX10_drawn_105 (by decide) ?_
        refine ih (y + 1) (nextX z) _ _ J2 (drS v (nextX z)) T9 t9 c9 (by simp (disch := omega) only [iN_lit, iN_add, iN_sub, iN_mul, iN_an, iN_of hu]; exact iN_ti2 (by omega) (by omega)) (by omega) (by omega) (fun q a => by rw [hJ2, va_ne' a]; exact hJ q a) (fun i hi => by rw [hJ2, va_at' rfl, hk2 i hi, ← hJv]; exact hh i hi) (by rw [hJ2, va_at' rfl]) hV9 e1 ?_
        have e3 : drC r (drS v (nextX z)) (nextX z) (a + @ite Int32 (drV v (nextX z)) (Classical.propDecidable _) 1 0) = drC k (va_cpy w old 0 0 124) x 0 := e2
        rw [if_neg hdr] at e3
        exact e3
  refine z_aload_n G dX10_drawn_0 rfl ?_
  refine z_V G lk_X10_179 dX10_drawn_1 [] rfl rfl rfl (Nat.le_of_ble_eq_true rfl) ⟨Nat.le_refl _, Nat.le_refl _⟩ (by assumption) ?_
  refine k_X10_isWeb hM (by rw [hw]; exact v1.1) (fun _ => ?_) (fun q => absurd q (by omega))
  refine z_if_ne G 10 dX10_drawn_4 (by decide) (fun _ => ?_) (fun c => absurd c (by decide))
  refine z_iload_n G dX10_drawn_10 rfl ?_
  refine z_iconst G (v := 0) dX10_drawn_11 (by decide) ?_
  refine z_bipush G (v := 60) dX10_drawn_12 (by decide) ?_
  refine z_S G lk_X10_62 dX10_drawn_14 [_, _, _] rfl rfl rfl (Nat.le_of_ble_eq_true rfl) ⟨Nat.le_refl _, Nat.le_refl _⟩ ?_
  refine k_X10_in ?_ ?_
  · intro hin
    refine z_if_eq G 39 dX10_drawn_17 (by decide) (fun c => absurd c (by decide)) (fun _ => ?_)
    refine z_iload_n G dX10_drawn_20 rfl ?_
    refine z_iconst G (v := 1) dX10_drawn_21 (by decide) ?_
    refine z_ldc G ct_X10_233 dX10_drawn_22 ?_
    refine z_S G lk_X10_62 dX10_drawn_24 [_, _, _] rfl rfl rfl (Nat.le_of_ble_eq_true rfl) ⟨Nat.le_refl _, Nat.le_refl _⟩ ?_
    refine k_X10_in ?_ ?_
    · intro hin2
      refine z_if_eq G 39 dX10_drawn_27 (by decide) (fun c => absurd c (by decide)) (fun _ => ?_)
      refine z_iload_n G dX10_drawn_30 rfl ?_
      refine z_iconst G (v := 0) dX10_drawn_31 (by decide) ?_
      refine z_iconst G (v := 1) dX10_drawn_32 (by decide) ?_
      refine z_S G lk_X10_62 dX10_drawn_33 [_, _, _] rfl rfl rfl (Nat.le_of_ble_eq_true rfl) ⟨Nat.le_refl _, Nat.le_refl _⟩ ?_
      refine k_X10_in ?_ ?_
      · intro hin3
        refine z_if_ne G 42 dX10_drawn_36 (by decide) (fun _ => ?_) (fun c => absurd c (by decide))
        obtain ⟨k, hk1⟩ : ∃ k : Nat, nn.toInt = (k : Int) := ⟨nn.toInt.toNat, by simp only [ti_lt, ti_le, Int32.reduceToInt] at *; omega⟩
        obtain ⟨x, hx1⟩ : ∃ k : Nat, seed.toInt = (k : Int) := ⟨seed.toInt.toNat, by simp only [ti_lt, ti_le, Int32.reduceToInt] at *; omega⟩
        have hx32 := ti_hi seed
        refine z_aload_n G dX10_drawn_42 rfl ?_
        refine z_getR G fl_X10_25 rfl dX10_drawn_43 (by assumption) (by assumption) ?_
        refine z_iconst G (v := 0) dX10_drawn_46 (by decide) ?_
        refine z_aload_n G dX10_drawn_47 rfl ?_
        refine z_getR G fl_X10_31 rfl dX10_drawn_48 (by assumption) (by assumption) ?_
        refine z_iconst G (v := 0) dX10_drawn_51 (by decide) ?_
        refine z_S G lk_X10_146 dX10_drawn_52 [_, _, _, _] rfl rfl rfl (Nat.le_of_ble_eq_true rfl) ⟨Nat.le_refl _, Nat.le_refl _⟩ ?_
        refine k_X10_copies s6 s8 (by omega) (f := 0) (g := 0) rfl rfl (by omega) (by omega) ⟨by omega, by omega⟩ ?_
        rw [hw, cpy_hi hold]
        refine z_iload_n G dX10_drawn_55 rfl ?_
        refine z_i2l G dX10_drawn_56 ?_
        refine z_topL (y := iL x) (by rw [iN_of hx1, iN_l (by omega)]) ?_
        refine z_lstore G dX10_drawn_57 (Nat.le_of_ble_eq_true rfl) rfl ?_
        refine z_iconst G (v := 0) dX10_drawn_59 (by decide) ?_
        refine z_istore G dX10_drawn_60 (Nat.le_of_ble_eq_true rfl) rfl ?_
        refine z_iconst G (v := 0) dX10_drawn_62 (by decide) ?_
        refine z_istore G dX10_drawn_63 (Nat.le_of_ble_eq_true rfl) rfl ?_
        exact loop k x hk1 hx1 k 0 x 0 0 _ (va_cpy w old 0 0 124) T t c rfl (by omega) (by omega) (fun q a => va_ne' a) (fun i hi => by rw [va_at' rfl, cpy_off (by omega)]) (va_at' rfl) hV.cpy rfl rfl
      · intro hin3
        refine z_if_ne G 42 dX10_drawn_36 (by decide) (fun c => absurd c (by decide)) (fun _ => ?_)
        refine z_ldc G ct_X10_70 dX10_drawn_39 ?_
        exact z_iret G hq dX10_drawn_41 (hb (fun ⟨k, x, e, q1, q2, q3, q4, q5, q6, q7⟩ => hin3 (by simp only [ti_lt, ti_le, Int32.reduceToInt]; omega)))
    · intro hin2
      refine z_if_eq G 39 dX10_drawn_27 (by decide) (fun _ => ?_) (fun c => absurd c (by decide))
      refine z_ldc G ct_X10_70 dX10_drawn_39 ?_
      exact z_iret G hq dX10_drawn_41 (hb (fun ⟨k, x, e, q1, q2, q3, q4, q5, q6, q7⟩ => hin2 (by simp only [ti_lt, ti_le, Int32.reduceToInt]; omega)))
  · intro hin
    refine z_if_eq G 39 dX10_drawn_17 (by decide) (fun _ => ?_) (fun c => absurd c (by decide))
    refine z_ldc G ct_X10_70 dX10_drawn_39 ?_
    exact z_iret G hq dX10_drawn_41 (hb (fun ⟨k, x, e, q1, q2, q3, q4, q5, q6, q7⟩ => hin (by simp only [ti_lt, ti_le, Int32.reduceToInt]; omega)))
set_option maxHeartbeats 1000000 in
set_option maxRecDepth 20000 in
theorem k_X10_copy {E : pmE} {d : Nat} {S : pmS} {I : pmI} {P : pmP} {R : Option Value → pmS → pmI → pmP → Prop} {m : Nat} (hM : MG S P m) (hsz : ∀ k, k < 8 → ∃ z : Nat, (I (m + 2) k).toInt = (z : Int) ∧ z ≤ 40) {a i b j n : Int32} (hb : (¬ ∃ k l : Nat, a.toInt = (k : Int) ∧ k < 8 ∧ b.toInt = (l : Int) ∧ l < 8) → R (some (.int (-1000001))) S I P) (hm : ∀ k l : Nat, a.toInt = (k : Int) → k < 8 → b.toInt = (l : Int) → l < 8 → (I (m + 1) k = -1000000 ∨ I (m + 1) l = -1000000) → R (some (.int (-1000010 - 1))) S (va_up I m (va_up (I m) 4 1)) P) (hs : ∀ k l : Nat, a.toInt = (k : Int) → k < 8 → b.toInt = (l : Int) → l < 8 → ¬ I (m + 1) k = -1000000 → ¬ I (m + 1) l = -1000000 → ¬ I (m + 1) k = I (m + 1) l → R (some (.int (-1000010 - 5))) S (va_up I m (va_up (I m) 4 5)) P) (hp : ∀ k l : Nat, a.toInt = (k : Int) → k < 8 → b.toInt = (l : Int) → l < 8 → ∀ y z : Nat, ¬ I (m + 1) k = -1000000 → ¬ I (m + 1) l = -1000000 → I (m + 1) k = I (m + 1) l → (I (m + 2) k).toInt = (y : Int) → y ≤ 40 → (I (m + 2) l).toInt = (z : Int) → z ≤ 40 → ¬ (PL i n y ∧ PL j n z) → R (some (.int (-1000010 - 2))) S (va_up I m (va_up (I m) 4 2)) P) (hok : ∀ k l : Nat, a.toInt = (k : Int) → k < 8 → b.toInt = (l : Int) → l < 8 → ∀ y z u v q : Nat, ¬ I (m + 1) k = -1000000 → ¬ I (m + 1) l = -1000000 → I (m + 1) k = I (m + 1) l → (I (m + 2) k).toInt = (y : Int) → y ≤ 40 → (I (m + 2) l).toInt = (z : Int) → z ≤ 40 → i.toInt = (u : Int) → j.toInt = (v : Int) → n.toInt = (q : Int) → u + q ≤ y → v + q ≤ z → R (some (.int n)) S (va_up (va_up (va_up I (m + 4) (va_cpy (I (m + 3)) (I (m + 4)) (40 * k + u) 0 q)) (m + 3) (va_cpy (va_cpy (I (m + 3)) (I (m + 4)) (40 * k + u) 0 q) (I (m + 3)) 0 (40 * l + v) q)) m (va_up (I m) 4 0)) P) : pmX E (d + 2) 0 0 yX10_copy [rr E m, .int a, .int i, .int b, .int j, .int n] S I P R := by
  refine pm_of (by decide) cd_X10_copy (by decide) (by decide) (Nat.le_of_ble_eq_true rfl) ?_
  intro C G hq
  obtain ⟨g0, ⟨r0, r1, r2, r3, r4, r5, r6, r7, r8, r9, r10, r11, r12, r13, r14⟩, ⟨s1, s2, s3, s4, s5, s6, s7, s8, s9, s10, s11, s12, s13, s14, s15⟩⟩ := id hM
  have loop2 : ∀ (k l y z u v q : Nat) (hk : a.toInt = (k : Int)) (hk8 : k < 8) (hl : b.toInt = (l : Int)) (hl8 : l < 8) (t1 : ¬ I (m + 1) k = -1000000) (t2 : ¬ I (m + 1) l = -1000000) (t3 : I (m + 1) k = I (m + 1) l) (hy1 : (I (m + 2) k).toInt = (y : Int)) (hy2 : y ≤ 40) (hz1 : (I (m + 2) l).toInt = (z : Int)) (hz2 : z ≤ 40) (hu : i.toInt = (u : Int)) (hv : j.toInt = (v : Int)) (hq9 : n.toInt = (q : Int)) (huq : u + q ≤ y) (hvq : v + q ≤ z), ∀ (r k6 : Nat) (x6 : Int32), x6.toInt = (k6 : Int) → k6 + r = q → pmZ E C 129 [some (rr E m), some (.int a), some (.int i), some (.int b), some (.int j), some (.int n), some (.int x6)] [] S (va_up (va_up I (m + 4) (va_cpy (I (m + 3)) (I (m + 4)) (40 * k + u) 0 q)) (m + 3) (va_cpy (va_cpy (I (m + 3)) (I (m + 4)) (40 * k + u) 0 q) (I (m + 3)) 0 (40 * l + v) k6)) P 0 0 := by
    intro k l y z u v q hk hk8 hl hl8 t1 t2 t3 hy1 hy2 hz1 hz2 hu hv hq9 huq hvq r
    induction r with
    | zero =>
      intro k6 x6 h6 hr
      obtain rfl : k6 = q := by omega
      refine z_iload G dX10_copy_129 rfl ?_
      refine z_iload G dX10_copy_131 rfl ?_
      refine z_icmp_ge G 164 dX10_copy_133 (by decide) (fun _ => ?_) (fun c => absurd c (fun z => z (by simp (disch := omega) only [iN_lit, iN_add, iN_sub, iN_mul, iN_an, iN_le, iN_lt, iN_eq, iN_of h6, iN_of hq9] <;> omega)))
      refine z_aload_n G dX10_copy_164 rfl ?_
      refine z_iload G dX10_copy_165 rfl ?_
      refine z_V G lk_X10_75 dX10_copy_167 [_] rfl rfl rfl (Nat.le_of_ble_eq_true rfl) ⟨Nat.le_refl _, Nat.le_refl _⟩ (by assumption) ?_
      refine k_X10_well hM ?_
      exact z_iret G hq dX10_copy_170 (by rw [va_ne' (show m ≠ m + 3 by omega), va_ne' (show m ≠ m + 4 by omega)]; exact hok k l hk hk8 hl hl8 y z u v k6 t1 t2 t3 hy1 hy2 hz1 hz2 hu hv hq9 huq hvq)
    | succ r ih =>
      intro k6 x6 h6 hr
      refine z_iload G dX10_copy_129 rfl ?_
      refine z_iload G dX10_copy_131 rfl ?_
      refine z_icmp_ge G 164 dX10_copy_133 (by decide) (fun c => absurd c (by simp (disch := omega) only [iN_lit, iN_add, iN_sub, iN_mul, iN_an, iN_le, iN_lt, iN_eq, iN_of h6, iN_of hq9]; omega)) (fun _ => ?_)
      refine z_aload_n G dX10_copy_136 rfl ?_
      refine z_getR G fl_X10_16 rfl dX10_copy_137 (by assumption) (by assumption) ?_
      refine z_bipush G (v := 40) dX10_copy_140 (by decide) ?_
      refine z_iload_n G dX10_copy_142 rfl ?_
      refine z_imul G dX10_copy_143 ?_
      refine z_iload G dX10_copy_144 rfl ?_
      refine z_iadd G dX10_copy_146 ?_
      refine z_iload G dX10_copy_147 rfl ?_
      refine z_iadd G dX10_copy_149 ?_
      refine z_aload_n G dX10_copy_150 rfl ?_
      refine z_getR G fl_X10_19 rfl dX10_copy_151 (by assumption) (by assumption) ?_
      refine z_iload G dX10_copy_154 rfl ?_
      refine z_iald G (k6) dX10_copy_156 (by assumption) (h6) (by omega) ?_
      refine z_iast G (40 * l + v + k6) dX10_copy_157 (by assumption) (by simp (disch := omega) only [iN_lit, iN_add, iN_sub, iN_mul, iN_an, iN_of hl, iN_of hv, iN_of h6]; exact iN_ti2 (by omega) (by omega)) (by omega) ?_
      refine z_iinc G (v := 1) dX10_copy_158 (by decide) rfl rfl ?_
      refine z_goto G 129 dX10_copy_161 (by decide) ?_
      refine z_eq rfl rfl rfl ?_ rfl (ih (k6 + 1) _ (by simp (disch := omega) only [iN_lit, iN_add, iN_sub, iN_mul, iN_an, iN_of h6]; exact iN_ti2 (by omega) (by omega)) (by omega))
      rw [va_up_up, va_at' rfl, va_ne' (show m + 4 ≠ m + 3 by omega), va_at' rfl]
      rw [show (va_cpy (I (m + 3)) (I (m + 4)) (40 * k + u) 0 q) k6 = (va_cpy (I (m + 3)) (I (m + 4)) (40 * k + u) 0 q) (0 + k6) by rw [Nat.zero_add], cpy_step]
  have loop1 : ∀ (k l y z u v q : Nat) (hk : a.toInt = (k : Int)) (hk8 : k < 8) (hl : b.toInt = (l : Int)) (hl8 : l < 8) (t1 : ¬ I (m + 1) k = -1000000) (t2 : ¬ I (m + 1) l = -1000000) (t3 : I (m + 1) k = I (m + 1) l) (hy1 : (I (m + 2) k).toInt = (y : Int)) (hy2 : y ≤ 40) (hz1 : (I (m + 2) l).toInt = (z : Int)) (hz2 : z ≤ 40) (hu : i.toInt = (u : Int)) (hv : j.toInt = (v : Int)) (hq9 : n.toInt = (q : Int)) (huq : u + q ≤ y) (hvq : v + q ≤ z), ∀ (r k6 : Nat) (x6 : Int32), x6.toInt = (k6 : Int) → k6 + r = q → pmZ E C 92 [some (rr E m), some (.int a), some (.int i), some (.int b), some (.int j), some (.int n), some (.int x6)] [] S (va_up I (m + 4) (va_cpy (I (m + 3)) (I (m + 4)) (40 * k + u) 0 k6)) P 0 0 := by
    intro k l y z u v q hk hk8 hl hl8 t1 t2 t3 hy1 hy2 hz1 hz2 hu hv hq9 huq hvq r
    induction r with
    | zero =>
      intro k6 x6 h6 hr
      obtain rfl : k6 = q := by omega
      refine z_iload G dX10_copy_92 rfl ?_
      refine z_iload G dX10_copy_94 rfl ?_
      refine z_icmp_ge G 126 dX10_copy_96 (by decide) (fun _ => ?_) (fun c => absurd c (fun z => z (by simp (disch := omega) only [iN_lit, iN_add, iN_sub, iN_mul, iN_an, iN_le, iN_lt, iN_eq, iN_of h6, iN_of hq9] <;> omega)))
      refine z_iconst G (v := 0) dX10_copy_126 (by decide) ?_
      refine z_istore G dX10_copy_127 (Nat.le_of_ble_eq_true rfl) rfl ?_
      refine z_eq rfl rfl rfl ?_ rfl (loop2 k l y z u v k6 hk hk8 hl hl8 t1 t2 t3 hy1 hy2 hz1 hz2 hu hv hq9 huq hvq k6 0 0 rfl (by omega))
      rw [cpy_0]
      conv => rhs; rw [show I (m + 3) = va_up I (m + 4) (va_cpy (I (m + 3)) (I (m + 4)) (40 * k + u) 0 k6) (m + 3) from (va_ne' (by omega)).symm]
      rw [va_ne' (show m + 3 ≠ m + 4 by omega)]
      funext i9
      by_cases h9 : i9 = m + 3
      · rw [h9, va_at' rfl, va_ne' (by omega)]
      · rw [va_ne' h9]
    | succ r ih =>
      intro k6 x6 h6 hr
      refine z_iload G dX10_copy_92 rfl ?_
      refine z_iload G dX10_copy_94 rfl ?_
      refine z_icmp_ge G 126 dX10_copy_96 (by decide) (fun c => absurd c (by simp (disch := omega) only [iN_lit, iN_add, iN_sub, iN_mul, iN_an, iN_le, iN_lt, iN_eq, iN_of h6, iN_of hq9]; omega)) (fun _ => ?_)
      refine z_aload_n G dX10_copy_99 rfl ?_
      refine z_getR G fl_X10_19 rfl dX10_copy_100 (by assumption) (by assumption) ?_
      refine z_iload G dX10_copy_103 rfl ?_
      refine z_aload_n G dX10_copy_105 rfl ?_
      refine z_getR G fl_X10_16 rfl dX10_copy_106 (by assumption) (by assumption) ?_
      refine z_bipush G (v := 40) dX10_copy_109 (by decide) ?_
      refine z_iload_n G dX10_copy_111 rfl ?_
      refine z_imul G dX10_copy_112 ?_
      refine z_iload_n G dX10_copy_113 rfl ?_
      refine z_iadd G dX10_copy_114 ?_
      refine z_iload G dX10_copy_115 rfl ?_
      refine z_iadd G dX10_copy_117 ?_
      refine z_iald G (40 * k + u + k6) dX10_copy_118 (by assumption) (by simp (disch := omega) only [iN_lit, iN_add, iN_sub, iN_mul, iN_an, iN_of hk, iN_of hu, iN_of h6]; exact iN_ti2 (by omega) (by omega)) (by omega) ?_
      refine z_iast G (0 + k6) dX10_copy_119 (by assumption) (by simp (disch := omega) only [iN_lit, iN_add, iN_sub, iN_mul, iN_an, iN_of h6]; exact iN_ti2 (by omega) (by omega)) (by omega) ?_
      refine z_iinc G (v := 1) dX10_copy_120 (by decide) rfl rfl ?_
      refine z_goto G 92 dX10_copy_123 (by decide) ?_
      refine z_eq rfl rfl rfl ?_ rfl (ih (k6 + 1) _ (by simp (disch := omega) only [iN_lit, iN_add, iN_sub, iN_mul, iN_an, iN_of h6]; exact iN_ti2 (by omega) (by omega)) (by omega))
      rw [va_up_up, va_at' rfl, va_ne' (show m + 3 ≠ m + 4 by omega), cpy_step]
  refine z_iload_n G dX10_copy_0 rfl ?_
  refine z_S G lk_X10_66 dX10_copy_1 [_] rfl rfl rfl (Nat.le_of_ble_eq_true rfl) ⟨Nat.le_refl _, Nat.le_refl _⟩ ?_
  refine k_X10_isRow ?_ ?_
  · intro k hk hk8
    refine z_if_eq G 14 dX10_copy_4 (by decide) (fun c => absurd c (by decide)) (fun _ => ?_)
    refine z_iload_n G dX10_copy_7 rfl ?_
    refine z_S G lk_X10_66 dX10_copy_8 [_] rfl rfl rfl (Nat.le_of_ble_eq_true rfl) ⟨Nat.le_refl _, Nat.le_refl _⟩ ?_
    refine k_X10_isRow ?_ ?_
    · intro l hl hl8
      refine z_if_ne G 17 dX10_copy_11 (by decide) (fun _ => ?_) (fun c => absurd c (by decide))
      refine z_aload_n G dX10_copy_17 rfl ?_
      refine z_iload_n G dX10_copy_18 rfl ?_
      refine z_V G lk_X10_78 dX10_copy_19 [_] rfl rfl rfl (Nat.le_of_ble_eq_true rfl) ⟨Nat.le_refl _, Nat.le_refl _⟩ (by assumption) ?_
      refine k_X10_isMissing hM hk hk8 ?_ ?_
      · intro t1
        refine z_if_ne G 33 dX10_copy_22 (by decide) (fun _ => ?_) (fun c => absurd c (by decide))
        refine z_aload_n G dX10_copy_33 rfl ?_
        refine z_iconst G (v := 1) dX10_copy_34 (by decide) ?_
        refine z_V G lk_X10_71 dX10_copy_35 [_] rfl rfl rfl (Nat.le_of_ble_eq_true rfl) ⟨Nat.le_refl _, Nat.le_refl _⟩ (by assumption) ?_
        refine k_X10_found hM ?_
        exact z_iret G hq dX10_copy_38 (hm k l hk hk8 hl hl8 (Or.inl t1))
      · intro t1
        refine z_if_ne G 33 dX10_copy_22 (by decide) (fun c => absurd c (by decide)) (fun _ => ?_)
        refine z_aload_n G dX10_copy_25 rfl ?_
        refine z_iload_n G dX10_copy_26 rfl ?_
        refine z_V G lk_X10_78 dX10_copy_27 [_] rfl rfl rfl (Nat.le_of_ble_eq_true rfl) ⟨Nat.le_refl _, Nat.le_refl _⟩ (by assumption) ?_
        refine k_X10_isMissing hM hl hl8 ?_ ?_
        · intro t2
          refine z_if_eq G 39 dX10_copy_30 (by decide) (fun c => absurd c (by decide)) (fun _ => ?_)
          refine z_aload_n G dX10_copy_33 rfl ?_
          refine z_iconst G (v := 1) dX10_copy_34 (by decide) ?_
          refine z_V G lk_X10_71 dX10_copy_35 [_] rfl rfl rfl (Nat.le_of_ble_eq_true rfl) ⟨Nat.le_refl _, Nat.le_refl _⟩ (by assumption) ?_
          refine k_X10_found hM ?_
          exact z_iret G hq dX10_copy_38 (hm k l hk hk8 hl hl8 (Or.inr t2))
        · intro t2
          refine z_if_eq G 39 dX10_copy_30 (by decide) (fun _ => ?_) (fun c => absurd c (by decide))
          obtain ⟨y, hy1, hy2⟩ := hsz k hk8
          obtain ⟨z, hz1, hz2⟩ := hsz l hl8
          refine z_aload_n G dX10_copy_39 rfl ?_
          refine z_getR G fl_X10_7 rfl dX10_copy_40 (by assumption) (by assumption) ?_
          refine z_iload_n G dX10_copy_43 rfl ?_
          refine z_iald G (k) dX10_copy_44 (by assumption) (hk) (by omega) ?_
          refine z_aload_n G dX10_copy_45 rfl ?_
          refine z_getR G fl_X10_7 rfl dX10_copy_46 (by assumption) (by assumption) ?_
          refine z_iload_n G dX10_copy_49 rfl ?_
          refine z_iald G (l) dX10_copy_50 (by assumption) (hl) (by omega) ?_
          refine z_icmp_eq G 60 dX10_copy_51 (by decide) (fun b51 => ?_) (fun b51 => ?_)
          · refine z_aload_n G dX10_copy_60 rfl ?_
            refine z_iload_n G dX10_copy_61 rfl ?_
            refine z_iload_n G dX10_copy_62 rfl ?_
            refine z_iload G dX10_copy_63 rfl ?_
            refine z_V G lk_X10_85 dX10_copy_65 [_, _, _] rfl rfl rfl (Nat.le_of_ble_eq_true rfl) ⟨Nat.le_refl _, Nat.le_refl _⟩ (by assumption) ?_
            refine k_X10_isPart hM hk hk8 hy1 hy2 ?_ ?_
            · intro hp1
              refine z_if_eq G 83 dX10_copy_68 (by decide) (fun c => absurd c (by decide)) (fun _ => ?_)
              refine z_aload_n G dX10_copy_71 rfl ?_
              refine z_iload_n G dX10_copy_72 rfl ?_
              refine z_iload G dX10_copy_73 rfl ?_
              refine z_iload G dX10_copy_75 rfl ?_
              refine z_V G lk_X10_85 dX10_copy_77 [_, _, _] rfl rfl rfl (Nat.le_of_ble_eq_true rfl) ⟨Nat.le_refl _, Nat.le_refl _⟩ (by assumption) ?_
              refine k_X10_isPart hM hl hl8 hz1 hz2 ?_ ?_
              · intro hp2
                refine z_if_ne G 89 dX10_copy_80 (by decide) (fun _ => ?_) (fun c => absurd c (by decide))
                refine z_iconst G (v := 0) dX10_copy_89 (by decide) ?_
                refine z_istore G dX10_copy_90 (Nat.le_of_ble_eq_true rfl) rfl ?_
                obtain ⟨u, hu⟩ : ∃ u : Nat, i.toInt = (u : Int) := ⟨i.toInt.toNat, by have := hp1.1; omega⟩
                obtain ⟨v, hv⟩ : ∃ u : Nat, j.toInt = (u : Int) := ⟨j.toInt.toNat, by have := hp2.1; omega⟩
                obtain ⟨q, hq9⟩ : ∃ u : Nat, n.toInt = (u : Int) := ⟨n.toInt.toNat, by have := hp1.2.1; omega⟩
                have huq : u + q ≤ y := by have := hp1.2.2; omega
                have hvq : v + q ≤ z := by have := hp2.2.2; omega
                refine z_eq rfl rfl rfl ?_ rfl (loop1 k l y z u v q hk hk8 hl hl8 t1 t2 b51 hy1 hy2 hz1 hz2 hu hv hq9 huq hvq q 0 0 rfl (by omega))
                rw [cpy_0, va_up_id]
              · intro hp2
                refine z_if_ne G 89 dX10_copy_80 (by decide) (fun c => absurd c (by decide)) (fun _ => ?_)
                refine z_aload_n G dX10_copy_83 rfl ?_
                refine z_iconst G (v := 2) dX10_copy_84 (by decide) ?_
                refine z_V G lk_X10_71 dX10_copy_85 [_] rfl rfl rfl (Nat.le_of_ble_eq_true rfl) ⟨Nat.le_refl _, Nat.le_refl _⟩ (by assumption) ?_
                refine k_X10_found hM ?_
                exact z_iret G hq dX10_copy_88 (hp k l hk hk8 hl hl8 y z t1 t2 b51 hy1 hy2 hz1 hz2 (fun z => hp2 z.2))
            · intro hp1
              refine z_if_eq G 83 dX10_copy_68 (by decide) (fun _ => ?_) (fun c => absurd c (by decide))
              refine z_aload_n G dX10_copy_83 rfl ?_
              refine z_iconst G (v := 2) dX10_copy_84 (by decide) ?_
              refine z_V G lk_X10_71 dX10_copy_85 [_] rfl rfl rfl (Nat.le_of_ble_eq_true rfl) ⟨Nat.le_refl _, Nat.le_refl _⟩ (by assumption) ?_
              refine k_X10_found hM ?_
              exact z_iret G hq dX10_copy_88 (hp k l hk hk8 hl hl8 y z t1 t2 b51 hy1 hy2 hz1 hz2 (fun z => hp1 z.1))
          · refine z_aload_n G dX10_copy_54 rfl ?_
            refine z_iconst G (v := 5) dX10_copy_55 (by decide) ?_
            refine z_V G lk_X10_71 dX10_copy_56 [_] rfl rfl rfl (Nat.le_of_ble_eq_true rfl) ⟨Nat.le_refl _, Nat.le_refl _⟩ (by assumption) ?_
            refine k_X10_found hM ?_
            exact z_iret G hq dX10_copy_59 (hs k l hk hk8 hl hl8 t1 t2 b51)
    · intro hno
      refine z_if_ne G 17 dX10_copy_11 (by decide) (fun c => absurd c (by decide)) (fun _ => ?_)
      refine z_ldc G ct_X10_70 dX10_copy_14 ?_
      exact z_iret G hq dX10_copy_16 (hb (fun ⟨k, l, _, _, q1, q2⟩ => hno ⟨l, q1, q2⟩))
  · intro hno
    refine z_if_eq G 14 dX10_copy_4 (by decide) (fun _ => ?_) (fun c => absurd c (by decide))
    refine z_ldc G ct_X10_70 dX10_copy_14 ?_
    exact z_iret G hq dX10_copy_16 (hb (fun ⟨k, l, q1, q2, _⟩ => hno ⟨k, q1, q2⟩))
