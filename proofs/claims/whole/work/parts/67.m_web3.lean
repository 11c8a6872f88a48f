theorem pTake_e {tp : Nat → Int32} {c : Int32} {a : Nat} {e : Int32 × Nat} (h : pTake tp c a = .inl e) : e.2 = a := by
  unfold pTake at h
  by_cases h1 : tkT tp a = c
  · rw [if_pos h1] at h; cases h
  · rw [if_neg h1] at h; cases h; rfl
theorem va_up_comm {α : Type} {f : Nat → α} {i j : Nat} {u v : α} (h : i ≠ j) : va_up (va_up f i u) j v = va_up (va_up f j v) i u := by
  funext k
  by_cases h1 : k = i
  · rw [va_ne' (show k ≠ j by omega), va_at' h1, va_at' h1]
  · by_cases h2 : k = j
    · rw [va_at' h2, va_ne' h1, va_at' h2]
    · rw [va_ne' h2, va_ne' h1, va_ne' h1, va_ne' h2]
theorem pLk_0 {tp : Nat → Int32} {n p a : Nat} {w : Nat → Int32} {q : Nat × Nat} (h : pNum tp 0 (n - 1) a = .inr q) : pLk tp n p 3 0 a w = pLk tp n p 2 1 q.1 (linkW w p 0 q.2) := by
  show (if 0 < 0 ∧ ¬ tkT tp a = 44 then _ else _) = _
  rw [if_neg (fun z => absurd z.1 (by omega)), if_neg (by omega)]
  exact pB_r h
theorem pB_l_congr {β γ : Type} {α : Type} {x : pR α} {f : α → pR β} {g : β → pR γ} {v : α} (h : x = .inr v) : pB (pB x f) g = pB (f v) g := by rw [h]; rfl
set_option maxHeartbeats 1000000 in
set_option maxRecDepth 20000 in
theorem k_X10_readsPage {E : pmE} {d : Nat} {S : pmS} {I : pmI} {P : pmP} {R : Option Value → pmS → pmI → pmP → Prop} {m : Nat} (hM : MG S P m) {tp : Nat → Int32} (hC : TM I m tp) {a : Nat} (hT : MT I m tp a) (ha80 : a ≤ 80) (hw : I m 8 = -1) {n p : Nat} {x : Int32} (hx : x.toInt = (p : Int)) (hp : p < 8) (hn1 : 1 ≤ n) (h8 : n ≤ 8) {w : Nat → Int32} (hdr : E4 (I (m + 7)) w) (hw0 : w 0 = iN n) {X : pR (Nat × (Nat → Int32))} (hX : pPage tp n p a w = X) (h0 : ∀ e, X = .inl e → ∀ J, BDm I J m e → R none S J P) (h1 : ∀ q, X = .inr q → ∀ J, OKm I J m → MT J m tp q.1 → E4 (J (m + 7)) q.2 → R none S J P) : pmX E (d + 4) 0 0 yX10_readsPage [rr E m, .int x] S I P R := by
  refine pm_of (by decide) cd_X10_readsPage (by decide) (by decide) (Nat.le_of_ble_eq_true rfl) ?_
  intro C G hq
  obtain ⟨g0, ⟨r0, r1, r2, r3, r4, r5, r6, r7, r8, r9, r10, r11, r12, r13, r14⟩, ⟨s1, s2, s3, s4, s5, s6, s7, s8, s9, s10, s11, s12, s13, s14, s15⟩⟩ := id hM
  obtain ⟨L, hL, hP, hv⟩ := id hC
  have hL80 := hP.1
  have bad : ∀ (J : pmI) (e : Int32 × Nat) (x3 : Option Value), X = .inl e → e.2 < 1000 → BDm I J m e → pmZ E C 107 [some (rr E m), some (.int x), some (.int (iN (4 + 5 * p))), x3] [] S J P 0 0 := by
    intro J e x3 hXe he80 hb
    refine z_aload_n G dX10_readsPage_107 rfl ?_
    refine z_aload_n G dX10_readsPage_108 rfl ?_
    refine z_getI G fl_X10_104 rfl dX10_readsPage_109 (by assumption) ?_
    refine z_iconst G (v := 4) dX10_readsPage_112 (by decide) ?_
    refine z_icmp_ne G 120 dX10_readsPage_113 (by decide) (fun b113 => ?_) (fun b113 => ?_)
    · refine z_iconst G (v := 0) dX10_readsPage_120 (by decide) ?_
      refine z_iconst G (v := 1) dX10_readsPage_121 (by decide) ?_
      refine z_V G lk_X10_120 dX10_readsPage_122 [_, _] rfl rfl rfl (Nat.le_of_ble_eq_true rfl) ⟨Nat.le_refl _, Nat.le_refl _⟩ (by assumption) ?_
      refine k_X10_takesN hM hb.2.2 he80 ?_
      refine z_pop G dX10_readsPage_125 rfl ?_
      exact z_vret G hq dX10_readsPage_126 (h0 e hXe J hb)
    · refine z_iconst G (v := 1) dX10_readsPage_116 (by decide) ?_
      refine z_goto G 121 dX10_readsPage_117 (by decide) ?_
      refine z_iconst G (v := 1) dX10_readsPage_121 (by decide) ?_
      refine z_V G lk_X10_120 dX10_readsPage_122 [_, _] rfl rfl rfl (Nat.le_of_ble_eq_true rfl) ⟨Nat.le_refl _, Nat.le_refl _⟩ (by assumption) ?_
      refine k_X10_takesN hM hb.2.2 he80 ?_
      refine z_pop G dX10_readsPage_125 rfl ?_
      exact z_vret G hq dX10_readsPage_126 (h0 e hXe J hb)
  have badL : ∀ (J : pmI) (e : Int32 × Nat) (x3 : Option Value), X = .inl e → e.2 < 1000 → BDm I J m e → pmZ E C 34 [some (rr E m), some (.int x), some (.int (iN (4 + 5 * p))), x3] [] S J P 0 0 := by
    intro J e x3 hXe he80 hb
    refine z_aload_n G dX10_readsPage_34 rfl ?_
    refine z_V G lk_X10_110 dX10_readsPage_35 [] rfl rfl rfl (Nat.le_of_ble_eq_true rfl) ⟨Nat.le_refl _, Nat.le_refl _⟩ (by assumption) ?_
    refine k_X10_isWell0 hM hb.2.2 he80 ?_
    refine z_if_eq G 107 dX10_readsPage_38 (by decide) (fun _ => ?_) (fun c => absurd c (by decide))
    exact bad J e x3 hXe he80 hb
  have fin : ∀ (J : pmI) (a : Nat) (w : Nat → Int32) (x3 : Option Value), OKm I J m → MT J m tp a → E4 (J (m + 7)) w → (pB (pTake tp 59 a) fun a3 => .inr (a3, w)) = X → pmZ E C 107 [some (rr E m), some (.int x), some (.int (iN (4 + 5 * p))), x3] [] S J P 0 0 := by
    intro J a w x3 ok tJ eJ hX
    have hwJ : J m 8 = -1 := ok.2.2.trans hw
    refine z_aload_n G dX10_readsPage_107 rfl ?_
    refine z_aload_n G dX10_readsPage_108 rfl ?_
    refine z_getI G fl_X10_104 rfl dX10_readsPage_109 (by assumption) ?_
    rw [tJ.2.1]
    refine z_iconst G (v := 4) dX10_readsPage_112 (by decide) ?_
    refine z_icmp_ne G 120 dX10_readsPage_113 (by decide) (fun b113 => ?_) (fun b113 => ?_)
    · refine z_iconst G (v := 0) dX10_readsPage_120 (by decide) ?_
      refine z_iconst G (v := 1) dX10_readsPage_121 (by decide) ?_
      refine z_V G lk_X10_120 dX10_readsPage_122 [_, _] rfl rfl rfl (Nat.le_of_ble_eq_true rfl) ⟨Nat.le_refl _, Nat.le_refl _⟩ (by assumption) ?_
      refine k_X10_takes0 hM tJ hwJ (fun J2 b1 _ b2 => ?_)
      refine z_pop G dX10_readsPage_125 rfl ?_
      exact z_vret G hq dX10_readsPage_126 (h0 _ (hX.symm.trans (pB_l (pTake_l (fun z => b113 (rf_stp.mpr z))))) J2 (ok.bd b1))
    · refine z_iconst G (v := 1) dX10_readsPage_116 (by decide) ?_
      refine z_goto G 121 dX10_readsPage_117 (by decide) ?_
      refine z_iconst G (v := 1) dX10_readsPage_121 (by decide) ?_
      have h59 := rf_stp.mp b113
      refine z_V G lk_X10_120 dX10_readsPage_122 [_, _] rfl rfl rfl (Nat.le_of_ble_eq_true rfl) ⟨Nat.le_refl _, Nat.le_refl _⟩ (by assumption) ?_
      refine k_X10_takes1 hM (hC.fm ok.1) tJ hwJ (by rw [h59]; decide) (fun J2 b1 b2 b3 => ?_)
      refine z_pop G dX10_readsPage_125 rfl ?_
      exact z_vret G hq dX10_readsPage_126 (h1 _ (hX.symm.trans (pB_r (pTake_r h59))) J2 (ok.tr b1) b2 (by rw [b3]; exact eJ))
  have loop : ∀ (r j a : Nat) (J : pmI) (w : Nat → Int32) (x3 : Option Value), a ≤ 80 → 1 ≤ j → j + r = 3 → OKm I J m → MT J m tp a → E4 (J (m + 7)) w → w 0 = iN n → w (4 + 5 * p) = iN j → (pB (pLk tp n p r j a w) fun q => pB (pTake tp 59 q.1) fun a3 => .inr (a3, q.2)) = X → pmZ E C 34 [some (rr E m), some (.int x), some (.int (iN (4 + 5 * p))), x3] [] S J P 0 0 := by
    intro r
    induction r with
    | zero =>
      intro j a J w x3 ha80 hj hr ok tJ eJ hw0 hcp hX
      obtain rfl : j = 3 := by omega
      have hwJ : J m 8 = -1 := ok.2.2.trans hw
      have FIN := fin J a w x3 ok tJ eJ hX
      have hdk : J (m + 7) (4 + 5 * p) = iN 3 := (eJ _ (by omega)).trans hcp
      refine z_aload_n G dX10_readsPage_34 rfl ?_
      refine z_V G lk_X10_110 dX10_readsPage_35 [] rfl rfl rfl (Nat.le_of_ble_eq_true rfl) ⟨Nat.le_refl _, Nat.le_refl _⟩ (by assumption) ?_
      refine k_X10_isWell1 hM hwJ ?_
      refine z_if_eq G 107 dX10_readsPage_38 (by decide) (fun c => absurd c (by decide)) (fun _ => ?_)
      refine z_aload_n G dX10_readsPage_41 rfl ?_
      refine z_getI G fl_X10_104 rfl dX10_readsPage_42 (by assumption) ?_
      refine z_iconst G (v := 3) dX10_readsPage_45 (by decide) ?_
      refine z_icmp_ne G 107 dX10_readsPage_46 (by decide) (fun b46 => ?_) (fun b46 => ?_)
      · exact FIN
      · refine z_aload_n G dX10_readsPage_49 rfl ?_
        refine z_getR G fl_X10_28 rfl dX10_readsPage_50 (by assumption) (by assumption) ?_
        refine z_iload_n G dX10_readsPage_53 rfl ?_
        refine z_iald G (4 + 5 * p) dX10_readsPage_54 (by assumption) (iN_ti (by omega)) (by omega) ?_
        refine z_iconst G (v := 3) dX10_readsPage_55 (by decide) ?_
        rw [hdk]
        refine z_icmp_ge G 107 dX10_readsPage_56 (by decide) (fun _ => ?_) (fun c => absurd c (by decide))
        exact FIN
    | succ r ih =>
      intro j a J w x3 ha80 hj hr ok tJ eJ hw0 hcp hX
      have hwJ : J m 8 = -1 := ok.2.2.trans hw
      have hdk : J (m + 7) (4 + 5 * p) = iN j := (eJ _ (by omega)).trans hcp
      have hd0 : J (m + 7) 0 = iN n := (eJ _ (by omega)).trans hw0
      refine z_aload_n G dX10_readsPage_34 rfl ?_
      refine z_V G lk_X10_110 dX10_readsPage_35 [] rfl rfl rfl (Nat.le_of_ble_eq_true rfl) ⟨Nat.le_refl _, Nat.le_refl _⟩ (by assumption) ?_
      refine k_X10_isWell1 hM hwJ ?_
      refine z_if_eq G 107 dX10_readsPage_38 (by decide) (fun c => absurd c (by decide)) (fun _ => ?_)
      refine z_aload_n G dX10_readsPage_41 rfl ?_
      refine z_getI G fl_X10_104 rfl dX10_readsPage_42 (by assumption) ?_
      rw [tJ.2.1]
      refine z_iconst G (v := 3) dX10_readsPage_45 (by decide) ?_
      refine z_icmp_ne G 107 dX10_readsPage_46 (by decide) (fun b46 => ?_) (fun b46 => ?_)
      · have h44 : ¬ tkT tp a = 44 := fun z => b46 (rf_com.mpr z)
        refine fin J a w x3 ok tJ eJ ?_
        unfold pLk at hX
        rw [if_pos ⟨by omega, h44⟩] at hX
        exact hX
      · have h44 := rf_com.mp b46
        unfold pLk at hX
        rw [if_neg (fun z => z.2 h44), if_pos (show 0 < j by omega)] at hX
        refine z_aload_n G dX10_readsPage_49 rfl ?_
        refine z_getR G fl_X10_28 rfl dX10_readsPage_50 (by assumption) (by assumption) ?_
        refine z_iload_n G dX10_readsPage_53 rfl ?_
        refine z_iald G (4 + 5 * p) dX10_readsPage_54 (by assumption) (iN_ti (by omega)) (by omega) ?_
        refine z_iconst G (v := 3) dX10_readsPage_55 (by decide) ?_
        rw [hdk]
        refine z_icmp_ge G 107 dX10_readsPage_56 (by decide) (fun c => absurd c (by rw [iN_lit, iN_le (by omega) (by omega)]; omega)) (fun _ => ?_)
        refine z_aload_n G dX10_readsPage_59 rfl ?_
        refine z_iconst G (v := 1) dX10_readsPage_60 (by decide) ?_
        refine z_iconst G (v := 1) dX10_readsPage_61 (by decide) ?_
        refine z_V G lk_X10_120 dX10_readsPage_62 [_, _] rfl rfl rfl (Nat.le_of_ble_eq_true rfl) ⟨Nat.le_refl _, Nat.le_refl _⟩ (by assumption) ?_
        refine k_X10_takes1 hM (hC.fm ok.1) tJ hwJ (by rw [h44]; decide) (fun J1 o1 t1 d1 => ?_)
        have ok1 := ok.tr o1
        have hwJ1 : J1 m 8 = -1 := ok1.2.2.trans hw
        have hE80 : tkE tp a ≤ 80 := hP.ne (by rw [h44]; decide)
        refine z_pop G dX10_readsPage_65 rfl ?_
        refine z_aload_n G dX10_readsPage_66 rfl ?_
        refine z_iconst G (v := 0) dX10_readsPage_67 (by decide) ?_
        refine z_aload_n G dX10_readsPage_68 rfl ?_
        refine z_getR G fl_X10_28 rfl dX10_readsPage_69 (by assumption) (by assumption) ?_
        refine z_iconst G (v := 0) dX10_readsPage_72 (by decide) ?_
        refine z_iald G (0) dX10_readsPage_73 (by assumption) (rfl) (by omega) ?_
        refine z_iconst G (v := 1) dX10_readsPage_74 (by decide) ?_
        refine z_isub G dX10_readsPage_75 ?_
        rw [d1, hd0]
        refine z_V G lk_X10_124 dX10_readsPage_76 [_, _] rfl rfl rfl (Nat.le_of_ble_eq_true rfl) ⟨Nat.le_refl _, Nat.le_refl _⟩ (by assumption) ?_
        refine k_X10_figure (lo := 0) (hi := n - 1) hM (hC.fm ok1.1) t1 hwJ1 rfl (iN_sub (b := 1) hn1) (by omega) (by omega) ?_ ?_
        · intro e he J2 b2 ea d2
          refine z_istore_n G dX10_readsPage_79 (Nat.le_of_ble_eq_true rfl) rfl ?_
          refine z_aload_n G dX10_readsPage_80 rfl ?_
          refine z_getR G fl_X10_28 rfl dX10_readsPage_81 (by assumption) (by assumption) ?_
          refine z_iload_n G dX10_readsPage_84 rfl ?_
          refine z_dup2 G dX10_readsPage_85 rfl rfl ?_
          refine z_iald G (4 + 5 * p) dX10_readsPage_86 (by assumption) (iN_ti (by omega)) (by omega) ?_
          rw [d2, d1, hdk]
          refine z_iconst G (v := 1) dX10_readsPage_87 (by decide) ?_
          refine z_iadd G dX10_readsPage_88 ?_
          refine z_top (y := iN (j + 1)) (iN_add j 1) ?_
          refine z_iast G (4 + 5 * p) dX10_readsPage_89 (by assumption) (iN_ti (by omega)) (by omega) ?_
          refine z_aload_n G dX10_readsPage_90 rfl ?_
          refine z_getR G fl_X10_28 rfl dX10_readsPage_91 (by assumption) (by assumption) ?_
          refine z_iload_n G dX10_readsPage_94 rfl ?_
          refine z_aload_n G dX10_readsPage_95 rfl ?_
          refine z_getR G fl_X10_28 rfl dX10_readsPage_96 (by assumption) (by assumption) ?_
          refine z_iload_n G dX10_readsPage_99 rfl ?_
          refine z_iald G (4 + 5 * p) dX10_readsPage_100 (by assumption) (iN_ti (by omega)) (by omega) ?_
          rw [va_at' rfl, va_at' rfl]
          refine z_iadd G dX10_readsPage_101 ?_
          refine z_top (y := iN (5 + 5 * p + j)) (by rw [iN_add]; congr 1; omega) ?_
          refine z_iload_n G dX10_readsPage_102 rfl ?_
          refine z_iast G (5 + 5 * p + j) dX10_readsPage_103 (by assumption) (iN_ti (by omega)) (by omega) ?_
          refine z_goto G 34 dX10_readsPage_104 (by decide) ?_
          exact badL _ e _ (by rw [← hX]; exact pB_l (pB_l he)) (by omega) ((ok1.bd b2).ok (OKm.dr.tr OKm.dr))
        · intro q hqq J2 o2 t2 d2
          refine z_istore_n G dX10_readsPage_79 (Nat.le_of_ble_eq_true rfl) rfl ?_
          refine z_aload_n G dX10_readsPage_80 rfl ?_
          refine z_getR G fl_X10_28 rfl dX10_readsPage_81 (by assumption) (by assumption) ?_
          refine z_iload_n G dX10_readsPage_84 rfl ?_
          refine z_dup2 G dX10_readsPage_85 rfl rfl ?_
          refine z_iald G (4 + 5 * p) dX10_readsPage_86 (by assumption) (iN_ti (by omega)) (by omega) ?_
          rw [d2, d1, hdk]
          refine z_iconst G (v := 1) dX10_readsPage_87 (by decide) ?_
          refine z_iadd G dX10_readsPage_88 ?_
          refine z_top (y := iN (j + 1)) (iN_add j 1) ?_
          refine z_iast G (4 + 5 * p) dX10_readsPage_89 (by assumption) (iN_ti (by omega)) (by omega) ?_
          refine z_aload_n G dX10_readsPage_90 rfl ?_
          refine z_getR G fl_X10_28 rfl dX10_readsPage_91 (by assumption) (by assumption) ?_
          refine z_iload_n G dX10_readsPage_94 rfl ?_
          refine z_aload_n G dX10_readsPage_95 rfl ?_
          refine z_getR G fl_X10_28 rfl dX10_readsPage_96 (by assumption) (by assumption) ?_
          refine z_iload_n G dX10_readsPage_99 rfl ?_
          refine z_iald G (4 + 5 * p) dX10_readsPage_100 (by assumption) (iN_ti (by omega)) (by omega) ?_
          rw [va_at' rfl, va_at' rfl]
          refine z_iadd G dX10_readsPage_101 ?_
          refine z_top (y := iN (5 + 5 * p + j)) (by rw [iN_add]; congr 1; omega) ?_
          refine z_iload_n G dX10_readsPage_102 rfl ?_
          refine z_iast G (5 + 5 * p + j) dX10_readsPage_103 (by assumption) (iN_ti (by omega)) (by omega) ?_
          refine z_goto G 34 dX10_readsPage_104 (by decide) ?_
          have q1e := (pNum_in hqq).2.2.2.1
          have ht2 := (pNum_in hqq).1
          refine ih (j + 1) q.1 _ (linkW w p j q.2) _ (by rw [q1e]; exact hP.ne (by rw [ht2]; decide)) (by omega) (by omega) ((ok1.tr o2).tr (OKm.dr.tr OKm.dr)) t2.dr.dr ?_ ((linkW_off (by omega) (by omega)).trans hw0) (by unfold linkW; rw [va_ne' (by omega), va_at' rfl]) ((pB_l_congr hqq).symm.trans hX)
          rw [va_at' rfl, va_at' rfl, d2, d1]
          exact eJ.up.up
  refine z_iconst G (v := 4) dX10_readsPage_0 (by decide) ?_
  refine z_iconst G (v := 5) dX10_readsPage_1 (by decide) ?_
  refine z_iload_n G dX10_readsPage_2 rfl ?_
  refine z_imul G dX10_readsPage_3 ?_
  refine z_iadd G dX10_readsPage_4 ?_
  refine z_top (y := iN (4 + 5 * p)) (by simp (disch := omega) only [iN_lit, iN_add, iN_sub, iN_mul, iN_an, iN_of hx] <;> exact congrArg iN (by omega)) ?_
  refine z_istore_n G dX10_readsPage_5 (Nat.le_of_ble_eq_true rfl) rfl ?_
  refine z_aload_n G dX10_readsPage_6 rfl ?_
  refine z_getR G fl_X10_28 rfl dX10_readsPage_7 (by assumption) (by assumption) ?_
  refine z_iload_n G dX10_readsPage_10 rfl ?_
  refine z_iconst G (v := 1) dX10_readsPage_11 (by decide) ?_
  refine z_iadd G dX10_readsPage_12 ?_
  refine z_aload_n G dX10_readsPage_13 rfl ?_
  refine z_iconst G (v := 0) dX10_readsPage_14 (by decide) ?_
  refine z_aload_n G dX10_readsPage_15 rfl ?_
  refine z_getR G fl_X10_28 rfl dX10_readsPage_16 (by assumption) (by assumption) ?_
  refine z_iconst G (v := 0) dX10_readsPage_19 (by decide) ?_
  refine z_iald G (0) dX10_readsPage_20 (by assumption) (rfl) (by omega) ?_
  refine z_iconst G (v := 1) dX10_readsPage_21 (by decide) ?_
  refine z_isub G dX10_readsPage_22 ?_
  rw [show I (m + 7) 0 = iN n from (hdr 0 (by omega)).trans hw0]
  refine z_V G lk_X10_124 dX10_readsPage_23 [_, _] rfl rfl rfl (Nat.le_of_ble_eq_true rfl) ⟨Nat.le_refl _, Nat.le_refl _⟩ (by assumption) ?_
  refine k_X10_figure (lo := 0) (hi := n - 1) hM hC hT hw rfl (iN_sub (b := 1) hn1) (by omega) (by omega) ?_ ?_
  · intro e he J2 b2 ea d2
    refine z_iast G (5 + 5 * p) dX10_readsPage_26 (by assumption) (by simp (disch := omega) only [iN_lit, iN_add, iN_sub, iN_mul, iN_an]; exact iN_ti2 (by omega) (by omega)) (by omega) ?_
    refine z_aload_n G dX10_readsPage_27 rfl ?_
    refine z_getR G fl_X10_28 rfl dX10_readsPage_28 (by assumption) (by assumption) ?_
    refine z_iload_n G dX10_readsPage_31 rfl ?_
    refine z_iconst G (v := 1) dX10_readsPage_32 (by decide) ?_
    refine z_iast G (4 + 5 * p) dX10_readsPage_33 (by assumption) (iN_ti (by omega)) (by omega) ?_
    exact badL _ e none (by rw [← hX]; exact pB_l (pB_l he)) (by omega) (b2.ok (OKm.dr.tr OKm.dr))
  · intro q hqq J2 o2 t2 d2
    refine z_iast G (5 + 5 * p) dX10_readsPage_26 (by assumption) (by simp (disch := omega) only [iN_lit, iN_add, iN_sub, iN_mul, iN_an]; exact iN_ti2 (by omega) (by omega)) (by omega) ?_
    refine z_aload_n G dX10_readsPage_27 rfl ?_
    refine z_getR G fl_X10_28 rfl dX10_readsPage_28 (by assumption) (by assumption) ?_
    refine z_iload_n G dX10_readsPage_31 rfl ?_
    refine z_iconst G (v := 1) dX10_readsPage_32 (by decide) ?_
    refine z_iast G (4 + 5 * p) dX10_readsPage_33 (by assumption) (iN_ti (by omega)) (by omega) ?_
    have q1e := (pNum_in hqq).2.2.2.1
    have ht2 := (pNum_in hqq).1
    refine loop 2 1 q.1 _ (linkW w p 0 q.2) none (by rw [q1e]; exact hP.ne (by rw [ht2]; decide)) (by omega) (by omega) (o2.tr (OKm.dr.tr OKm.dr)) t2.dr.dr ?_ ((linkW_off (by omega) (by omega)).trans hw0) (by unfold linkW; rw [va_ne' (by omega), va_at' rfl]) ?_
    · rw [va_at' rfl, va_at' rfl, d2]
      unfold linkW
      rw [va_up_comm (show 4 + 5 * p ≠ 5 + 5 * p + 0 by omega)]
      exact hdr.up.up
    · rw [← hX]
      unfold pPage
      rw [pLk_0 hqq]
set_option maxHeartbeats 1000000 in
set_option maxRecDepth 20000 in
theorem k_X10_readsPageN {E : pmE} {d : Nat} {S : pmS} {I : pmI} {P : pmP} {R : Option Value → pmS → pmI → pmP → Prop} {m : Nat} (hM : MG S P m) {e0 : Nat} (he : I m 8 = iN e0) (he80 : e0 < 1000) {p : Nat} {x : Int32} (hx : x.toInt = (p : Int)) (hp : p < 8) (h : ∀ J, (∀ k, k ≠ m + 7 → J k = I k) → R none S J P) : pmX E (d + 4) 0 0 yX10_readsPage [rr E m, .int x] S I P R := by
  refine pm_of (by decide) cd_X10_readsPage (by decide) (by decide) (Nat.le_of_ble_eq_true rfl) ?_
  intro C G hq
  obtain ⟨g0, ⟨r0, r1, r2, r3, r4, r5, r6, r7, r8, r9, r10, r11, r12, r13, r14⟩, ⟨s1, s2, s3, s4, s5, s6, s7, s8, s9, s10, s11, s12, s13, s14, s15⟩⟩ := id hM
  refine z_iconst G (v := 4) dX10_readsPage_0 (by decide) ?_
  refine z_iconst G (v := 5) dX10_readsPage_1 (by decide) ?_
  refine z_iload_n G dX10_readsPage_2 rfl ?_
  refine z_imul G dX10_readsPage_3 ?_
  refine z_iadd G dX10_readsPage_4 ?_
  refine z_top (y := iN (4 + 5 * p)) (by simp (disch := omega) only [iN_lit, iN_add, iN_sub, iN_mul, iN_an, iN_of hx] <;> exact congrArg iN (by omega)) ?_
  refine z_istore_n G dX10_readsPage_5 (Nat.le_of_ble_eq_true rfl) rfl ?_
  refine z_aload_n G dX10_readsPage_6 rfl ?_
  refine z_getR G fl_X10_28 rfl dX10_readsPage_7 (by assumption) (by assumption) ?_
  refine z_iload_n G dX10_readsPage_10 rfl ?_
  refine z_iconst G (v := 1) dX10_readsPage_11 (by decide) ?_
  refine z_iadd G dX10_readsPage_12 ?_
  refine z_aload_n G dX10_readsPage_13 rfl ?_
  refine z_iconst G (v := 0) dX10_readsPage_14 (by decide) ?_
  refine z_aload_n G dX10_readsPage_15 rfl ?_
  refine z_getR G fl_X10_28 rfl dX10_readsPage_16 (by assumption) (by assumption) ?_
  refine z_iconst G (v := 0) dX10_readsPage_19 (by decide) ?_
  refine z_iald G (0) dX10_readsPage_20 (by assumption) (rfl) (by omega) ?_
  refine z_iconst G (v := 1) dX10_readsPage_21 (by decide) ?_
  refine z_isub G dX10_readsPage_22 ?_
  refine z_V G lk_X10_124 dX10_readsPage_23 [_, _] rfl rfl rfl (Nat.le_of_ble_eq_true rfl) ⟨Nat.le_refl _, Nat.le_refl _⟩ (by assumption) ?_
  refine k_X10_figureN hM he he80 ?_
  refine z_iast G (5 + 5 * p) dX10_readsPage_26 (by assumption) (by simp (disch := omega) only [iN_lit, iN_add, iN_sub, iN_mul, iN_an]; exact iN_ti2 (by omega) (by omega)) (by omega) ?_
  refine z_aload_n G dX10_readsPage_27 rfl ?_
  refine z_getR G fl_X10_28 rfl dX10_readsPage_28 (by assumption) (by assumption) ?_
  refine z_iload_n G dX10_readsPage_31 rfl ?_
  refine z_iconst G (v := 1) dX10_readsPage_32 (by decide) ?_
  refine z_iast G (4 + 5 * p) dX10_readsPage_33 (by assumption) (iN_ti (by omega)) (by omega) ?_
  refine z_aload_n G dX10_readsPage_34 rfl ?_
  refine z_V G lk_X10_110 dX10_readsPage_35 [] rfl rfl rfl (Nat.le_of_ble_eq_true rfl) ⟨Nat.le_refl _, Nat.le_refl _⟩ (by assumption) ?_
  refine k_X10_isWell0 hM (e := e0) (by rw [va_ne' (by omega), va_ne' (by omega)]; exact he) he80 ?_
  refine z_if_eq G 107 dX10_readsPage_38 (by decide) (fun _ => ?_) (fun c => absurd c (by decide))
  refine z_aload_n G dX10_readsPage_107 rfl ?_
  refine z_aload_n G dX10_readsPage_108 rfl ?_
  refine z_getI G fl_X10_104 rfl dX10_readsPage_109 (by assumption) ?_
  refine z_iconst G (v := 4) dX10_readsPage_112 (by decide) ?_
  refine z_icmp_ne G 120 dX10_readsPage_113 (by decide) (fun b113 => ?_) (fun b113 => ?_)
  · refine z_iconst G (v := 0) dX10_readsPage_120 (by decide) ?_
    refine z_iconst G (v := 1) dX10_readsPage_121 (by decide) ?_
    refine z_V G lk_X10_120 dX10_readsPage_122 [_, _] rfl rfl rfl (Nat.le_of_ble_eq_true rfl) ⟨Nat.le_refl _, Nat.le_refl _⟩ (by assumption) ?_
    refine k_X10_takesN hM (e0 := e0) (by rw [va_ne' (by omega), va_ne' (by omega)]; exact he) he80 ?_
    refine z_pop G dX10_readsPage_125 rfl ?_
    exact z_vret G hq dX10_readsPage_126 (h _ (fun k hk => by rw [va_ne' hk, va_ne' hk]))
  · refine z_iconst G (v := 1) dX10_readsPage_116 (by decide) ?_
    refine z_goto G 121 dX10_readsPage_117 (by decide) ?_
    refine z_iconst G (v := 1) dX10_readsPage_121 (by decide) ?_
    refine z_V G lk_X10_120 dX10_readsPage_122 [_, _] rfl rfl rfl (Nat.le_of_ble_eq_true rfl) ⟨Nat.le_refl _, Nat.le_refl _⟩ (by assumption) ?_
    refine k_X10_takesN hM (e0 := e0) (by rw [va_ne' (by omega), va_ne' (by omega)]; exact he) he80 ?_
    refine z_pop G dX10_readsPage_125 rfl ?_
    exact z_vret G hq dX10_readsPage_126 (h _ (fun k hk => by rw [va_ne' hk, va_ne' hk]))
set_option maxHeartbeats 1000000 in
set_option maxRecDepth 20000 in
theorem k_X10_readsTab {E : pmE} {d : Nat} {S : pmS} {I : pmI} {P : pmP} {R : Option Value → pmS → pmI → pmP → Prop} {m : Nat} (hM : MG S P m) {tp : Nat → Int32} (hC : TM I m tp) {a : Nat} (hT : MT I m tp a) (ha80 : a ≤ 80) (hw : I m 8 = -1) (hkd : ¬ kdOf (tkT tp a) = 0) {n T : Nat} (hn1 : 1 ≤ n) (h8 : n ≤ 8) {w : Nat → Int32} (hdr : E4 (I (m + 7)) w) (hw0 : w 0 = iN n) (hTw : w 1 = iN T) (hT5 : T ≤ 5) {X : pR (Nat × (Nat → Int32))} (hX : pTab tp n T a w = X) (h0 : ∀ e, X = .inl e → ∀ J, BDm I J m e → R none S J P) (h1 : ∀ q, X = .inr q → ∀ J, OKm I J m → MT J m tp q.1 → E4 (J (m + 7)) q.2 → R none S J P) : pmX E (d + 4) 0 0 yX10_readsTab [rr E m] S I P R := by
  refine pm_of (by decide) cd_X10_readsTab (by decide) (by decide) (Nat.le_of_ble_eq_true rfl) ?_
  intro C G hq
  obtain ⟨g0, ⟨r0, r1, r2, r3, r4, r5, r6, r7, r8, r9, r10, r11, r12, r13, r14⟩, ⟨s1, s2, s3, s4, s5, s6, s7, s8, s9, s10, s11, s12, s13, s14, s15⟩⟩ := id hM
  obtain ⟨L, hL, hP, hv⟩ := id hC
  have hL80 := hP.1
  refine z_aload_n G dX10_readsTab_0 rfl ?_
  refine z_getI G fl_X10_101 rfl dX10_readsTab_1 (by assumption) ?_
  rw [(hT.kd hkd).2]
  refine z_S G lk_X10_127 dX10_readsTab_4 [_] rfl rfl rfl (Nat.le_of_ble_eq_true rfl) ⟨Nat.le_refl _, Nat.le_refl _⟩ ?_
  refine k_X10_kindOf ?_
  refine z_istore_n G dX10_readsTab_7 (Nat.le_of_ble_eq_true rfl) rfl ?_
  refine z_aload_n G dX10_readsTab_8 rfl ?_
  refine z_aload_n G dX10_readsTab_9 rfl ?_
  refine z_getR G fl_X10_28 rfl dX10_readsTab_10 (by assumption) (by assumption) ?_
  refine z_iconst G (v := 1) dX10_readsTab_13 (by decide) ?_
  refine z_iald G (1) dX10_readsTab_14 (by assumption) (rfl) (by omega) ?_
  rw [show I (m + 7) 1 = iN T from (hdr 1 (by omega)).trans hTw]
  refine z_iconst G (v := 5) dX10_readsTab_15 (by decide) ?_
  refine z_icmp_ge G 23 dX10_readsTab_16 (by decide) (fun b16 => ?_) (fun b16 => ?_)
  · have hT9 : ¬ T < 5 := by rw [iN_lit, iN_le (by omega) (by omega)] at b16; omega
    refine z_iconst G (v := 0) dX10_readsTab_23 (by decide) ?_
    refine z_iconst G (v := 3) dX10_readsTab_24 (by decide) ?_
    refine z_V G lk_X10_120 dX10_readsTab_25 [_, _] rfl rfl rfl (Nat.le_of_ble_eq_true rfl) ⟨Nat.le_refl _, Nat.le_refl _⟩ (by assumption) ?_
    refine k_X10_takes0 hM hT hw (fun J1 b1 _ d1 => ?_)
    have hX3 : X = .inl (3, a) := by rw [← hX]; unfold pTab; rw [if_neg hkd, if_neg hT9]
    refine z_pop G dX10_readsTab_28 rfl ?_
    refine z_bipush G (v := 44) dX10_readsTab_29 (by decide) ?_
    refine z_bipush G (v := 10) dX10_readsTab_31 (by decide) ?_
    refine z_aload_n G dX10_readsTab_33 rfl ?_
    refine z_getR G fl_X10_28 rfl dX10_readsTab_34 (by assumption) (by assumption) ?_
    refine z_iconst G (v := 1) dX10_readsTab_37 (by decide) ?_
    refine z_iald G (1) dX10_readsTab_38 (by assumption) (rfl) (by omega) ?_
    refine z_iconst G (v := 5) dX10_readsTab_39 (by decide) ?_
    rw [d1]
    rw [show I (m + 7) 1 = iN T from (hdr 1 (by omega)).trans hTw]
    refine z_icmp_ge G 52 dX10_readsTab_40 (by decide) (fun _ => ?_) (fun c => absurd c (fun z => z (by rw [iN_lit, iN_le (by omega) (by omega)]; omega)))
    refine z_iconst G (v := 0) dX10_readsTab_52 (by decide) ?_
    refine z_imul G dX10_readsTab_53 ?_
    refine z_iadd G dX10_readsTab_54 ?_
    refine z_istore_n G dX10_readsTab_55 (Nat.le_of_ble_eq_true rfl) rfl ?_
    refine z_aload_n G dX10_readsTab_56 rfl ?_
    refine z_iconst G (v := 0) dX10_readsTab_57 (by decide) ?_
    refine z_aload_n G dX10_readsTab_58 rfl ?_
    refine z_getR G fl_X10_28 rfl dX10_readsTab_59 (by assumption) (by assumption) ?_
    refine z_iconst G (v := 0) dX10_readsTab_62 (by decide) ?_
    refine z_iald G (0) dX10_readsTab_63 (by assumption) (rfl) (by omega) ?_
    refine z_iconst G (v := 1) dX10_readsTab_64 (by decide) ?_
    refine z_isub G dX10_readsTab_65 ?_
    refine z_V G lk_X10_124 dX10_readsTab_66 [_, _] rfl rfl rfl (Nat.le_of_ble_eq_true rfl) ⟨Nat.le_refl _, Nat.le_refl _⟩ (by assumption) ?_
    refine k_X10_figureN hM b1.2.2 (by show a < 1000; omega) ?_
    refine z_istore_n G dX10_readsTab_69 (Nat.le_of_ble_eq_true rfl) rfl ?_
    refine z_aload_n G dX10_readsTab_70 rfl ?_
    refine z_aload_n G dX10_readsTab_71 rfl ?_
    refine z_getI G fl_X10_104 rfl dX10_readsTab_72 (by assumption) ?_
    refine z_iconst G (v := 4) dX10_readsTab_75 (by decide) ?_
    refine z_icmp_ne G 83 dX10_readsTab_76 (by decide) (fun b76 => ?_) (fun b76 => ?_)
    · refine z_iconst G (v := 0) dX10_readsTab_83 (by decide) ?_
      refine z_iconst G (v := 1) dX10_readsTab_84 (by decide) ?_
      refine z_V G lk_X10_120 dX10_readsTab_85 [_, _] rfl rfl rfl (Nat.le_of_ble_eq_true rfl) ⟨Nat.le_refl _, Nat.le_refl _⟩ (by assumption) ?_
      refine k_X10_takesN hM b1.2.2 (by show a < 1000; omega) ?_
      refine z_pop G dX10_readsTab_88 rfl ?_
      refine z_aload_n G dX10_readsTab_89 rfl ?_
      refine z_V G lk_X10_110 dX10_readsTab_90 [] rfl rfl rfl (Nat.le_of_ble_eq_true rfl) ⟨Nat.le_refl _, Nat.le_refl _⟩ (by assumption) ?_
      refine k_X10_isWell0 hM b1.2.2 (by show a < 1000; omega) ?_
      refine z_if_eq G 116 dX10_readsTab_93 (by decide) (fun _ => ?_) (fun c => absurd c (by decide))
      exact z_vret G hq dX10_readsTab_116 (h0 _ hX3 J1 b1)
    · refine z_iconst G (v := 1) dX10_readsTab_79 (by decide) ?_
      refine z_goto G 84 dX10_readsTab_80 (by decide) ?_
      refine z_iconst G (v := 1) dX10_readsTab_84 (by decide) ?_
      refine z_V G lk_X10_120 dX10_readsTab_85 [_, _] rfl rfl rfl (Nat.le_of_ble_eq_true rfl) ⟨Nat.le_refl _, Nat.le_refl _⟩ (by assumption) ?_
      refine k_X10_takesN hM b1.2.2 (by show a < 1000; omega) ?_
      refine z_pop G dX10_readsTab_88 rfl ?_
      refine z_aload_n G dX10_readsTab_89 rfl ?_
      refine z_V G lk_X10_110 dX10_readsTab_90 [] rfl rfl rfl (Nat.le_of_ble_eq_true rfl) ⟨Nat.le_refl _, Nat.le_refl _⟩ (by assumption) ?_
      refine k_X10_isWell0 hM b1.2.2 (by show a < 1000; omega) ?_
      refine z_if_eq G 116 dX10_readsTab_93 (by decide) (fun _ => ?_) (fun c => absurd c (by decide))
      exact z_vret G hq dX10_readsTab_116 (h0 _ hX3 J1 b1)
  · have hT9 : T < 5 := by rw [iN_lit, iN_le (by omega) (by omega)] at b16; omega
    refine z_iconst G (v := 1) dX10_readsTab_19 (by decide) ?_
    refine z_goto G 24 dX10_readsTab_20 (by decide) ?_
    refine z_iconst G (v := 3) dX10_readsTab_24 (by decide) ?_
    have hne : ¬ tkT tp a = -1 := fun z => by rw [z] at hkd; exact hkd (by decide)
    have hXe : X = pB (pNum tp 0 (n - 1) (tkE tp a)) fun q => pB (pTake tp 59 q.1) fun a3 => .inr (a3, tabW w T (kdOf (tkT tp a)) q.2) := by rw [← hX]; unfold pTab; rw [if_neg hkd, if_pos hT9]
    have hE80 := hP.ne hne
    refine z_V G lk_X10_120 dX10_readsTab_25 [_, _] rfl rfl rfl (Nat.le_of_ble_eq_true rfl) ⟨Nat.le_refl _, Nat.le_refl _⟩ (by assumption) ?_
    refine k_X10_takes1 hM hC hT hw hne (fun J1 o1 t1 d1 => ?_)
    have hw1 : J1 m 8 = -1 := o1.2.2.trans hw
    refine z_pop G dX10_readsTab_28 rfl ?_
    refine z_bipush G (v := 44) dX10_readsTab_29 (by decide) ?_
    refine z_bipush G (v := 10) dX10_readsTab_31 (by decide) ?_
    refine z_aload_n G dX10_readsTab_33 rfl ?_
    refine z_getR G fl_X10_28 rfl dX10_readsTab_34 (by assumption) (by assumption) ?_
    refine z_iconst G (v := 1) dX10_readsTab_37 (by decide) ?_
    refine z_iald G (1) dX10_readsTab_38 (by assumption) (rfl) (by omega) ?_
    refine z_iconst G (v := 5) dX10_readsTab_39 (by decide) ?_
    rw [d1]
    rw [show I (m + 7) 1 = iN T from (hdr 1 (by omega)).trans hTw]
    refine z_icmp_ge G 52 dX10_readsTab_40 (by decide) (fun c => absurd c (by rw [iN_lit, iN_le (by omega) (by omega)]; omega)) (fun _ => ?_)
    refine z_aload_n G dX10_readsTab_43 rfl ?_
    refine z_getR G fl_X10_28 rfl dX10_readsTab_44 (by assumption) (by assumption) ?_
    refine z_iconst G (v := 1) dX10_readsTab_47 (by decide) ?_
    refine z_iald G (1) dX10_readsTab_48 (by assumption) (rfl) (by omega) ?_
    refine z_goto G 53 dX10_readsTab_49 (by decide) ?_
    refine z_imul G dX10_readsTab_53 ?_
    refine z_iadd G dX10_readsTab_54 ?_
    rw [d1]
    rw [show I (m + 7) 1 = iN T from (hdr 1 (by omega)).trans hTw]
    refine z_top (y := iN (44 + 10 * T)) (by simp (disch := omega) only [iN_lit, iN_add, iN_sub, iN_mul, iN_an] <;> exact congrArg iN (by omega)) ?_
    refine z_istore_n G dX10_readsTab_55 (Nat.le_of_ble_eq_true rfl) rfl ?_
    refine z_aload_n G dX10_readsTab_56 rfl ?_
    refine z_iconst G (v := 0) dX10_readsTab_57 (by decide) ?_
    refine z_aload_n G dX10_readsTab_58 rfl ?_
    refine z_getR G fl_X10_28 rfl dX10_readsTab_59 (by assumption) (by assumption) ?_
    refine z_iconst G (v := 0) dX10_readsTab_62 (by decide) ?_
    refine z_iald G (0) dX10_readsTab_63 (by assumption) (rfl) (by omega) ?_
    refine z_iconst G (v := 1) dX10_readsTab_64 (by decide) ?_
    refine z_isub G dX10_readsTab_65 ?_
    rw [d1, show I (m + 7) 0 = iN n from (hdr 0 (by omega)).trans hw0]
    refine z_V G lk_X10_124 dX10_readsTab_66 [_, _] rfl rfl rfl (Nat.le_of_ble_eq_true rfl) ⟨Nat.le_refl _, Nat.le_refl _⟩ (by assumption) ?_
    refine k_X10_figure (lo := 0) (hi := n - 1) hM (hC.fm o1.1) t1 hw1 rfl (iN_sub (b := 1) hn1) (by omega) (by omega) ?_ ?_
    · intro e he J2 b2 ea d2
      refine z_istore_n G dX10_readsTab_69 (Nat.le_of_ble_eq_true rfl) rfl ?_
      refine z_aload_n G dX10_readsTab_70 rfl ?_
      refine z_aload_n G dX10_readsTab_71 rfl ?_
      refine z_getI G fl_X10_104 rfl dX10_readsTab_72 (by assumption) ?_
      have b9 := o1.bd b2
      refine z_iconst G (v := 4) dX10_readsTab_75 (by decide) ?_
      refine z_icmp_ne G 83 dX10_readsTab_76 (by decide) (fun b76 => ?_) (fun b76 => ?_)
      · refine z_iconst G (v := 0) dX10_readsTab_83 (by decide) ?_
        refine z_iconst G (v := 1) dX10_readsTab_84 (by decide) ?_
        refine z_V G lk_X10_120 dX10_readsTab_85 [_, _] rfl rfl rfl (Nat.le_of_ble_eq_true rfl) ⟨Nat.le_refl _, Nat.le_refl _⟩ (by assumption) ?_
        refine k_X10_takesN hM b9.2.2 (by omega) ?_
        refine z_pop G dX10_readsTab_88 rfl ?_
        refine z_aload_n G dX10_readsTab_89 rfl ?_
        refine z_V G lk_X10_110 dX10_readsTab_90 [] rfl rfl rfl (Nat.le_of_ble_eq_true rfl) ⟨Nat.le_refl _, Nat.le_refl _⟩ (by assumption) ?_
        refine k_X10_isWell0 hM b9.2.2 (by omega) ?_
        refine z_if_eq G 116 dX10_readsTab_93 (by decide) (fun _ => ?_) (fun c => absurd c (by decide))
        exact z_vret G hq dX10_readsTab_116 (h0 _ (hXe.trans (pB_l he)) J2 b9)
      · refine z_iconst G (v := 1) dX10_readsTab_79 (by decide) ?_
        refine z_goto G 84 dX10_readsTab_80 (by decide) ?_
        refine z_iconst G (v := 1) dX10_readsTab_84 (by decide) ?_
        refine z_V G lk_X10_120 dX10_readsTab_85 [_, _] rfl rfl rfl (Nat.le_of_ble_eq_true rfl) ⟨Nat.le_refl _, Nat.le_refl _⟩ (by assumption) ?_
        refine k_X10_takesN hM b9.2.2 (by omega) ?_
        refine z_pop G dX10_readsTab_88 rfl ?_
        refine z_aload_n G dX10_readsTab_89 rfl ?_
        refine z_V G lk_X10_110 dX10_readsTab_90 [] rfl rfl rfl (Nat.le_of_ble_eq_true rfl) ⟨Nat.le_refl _, Nat.le_refl _⟩ (by assumption) ?_
        refine k_X10_isWell0 hM b9.2.2 (by omega) ?_
        refine z_if_eq G 116 dX10_readsTab_93 (by decide) (fun _ => ?_) (fun c => absurd c (by decide))
        exact z_vret G hq dX10_readsTab_116 (h0 _ (hXe.trans (pB_l he)) J2 b9)
    · intro q hqq J2 o2 t2 d2
      refine z_istore_n G dX10_readsTab_69 (Nat.le_of_ble_eq_true rfl) rfl ?_
      refine z_aload_n G dX10_readsTab_70 rfl ?_
      refine z_aload_n G dX10_readsTab_71 rfl ?_
      refine z_getI G fl_X10_104 rfl dX10_readsTab_72 (by assumption) ?_
      rw [t2.2.1]
      have ok2 := o1.tr o2
      have hw2 : J2 m 8 = -1 := ok2.2.2.trans hw
      have q1e := (pNum_in hqq).2.2.2.1
      have hq80 : q.1 ≤ 80 := by rw [q1e]; exact hP.ne (by rw [(pNum_in hqq).1]; decide)
      refine z_iconst G (v := 4) dX10_readsTab_75 (by decide) ?_
      refine z_icmp_ne G 83 dX10_readsTab_76 (by decide) (fun b76 => ?_) (fun b76 => ?_)
      · refine z_iconst G (v := 0) dX10_readsTab_83 (by decide) ?_
        refine z_iconst G (v := 1) dX10_readsTab_84 (by decide) ?_
        refine z_V G lk_X10_120 dX10_readsTab_85 [_, _] rfl rfl rfl (Nat.le_of_ble_eq_true rfl) ⟨Nat.le_refl _, Nat.le_refl _⟩ (by assumption) ?_
        refine k_X10_takes0 hM t2 hw2 (fun J3 b3 _ d3 => ?_)
        refine z_pop G dX10_readsTab_88 rfl ?_
        refine z_aload_n G dX10_readsTab_89 rfl ?_
        refine z_V G lk_X10_110 dX10_readsTab_90 [] rfl rfl rfl (Nat.le_of_ble_eq_true rfl) ⟨Nat.le_refl _, Nat.le_refl _⟩ (by assumption) ?_
        refine k_X10_isWell0 hM b3.2.2 (by show q.1 < 1000; omega) ?_
        refine z_if_eq G 116 dX10_readsTab_93 (by decide) (fun _ => ?_) (fun c => absurd c (by decide))
        exact z_vret G hq dX10_readsTab_116 (h0 _ (hXe.trans ((pB_r hqq).trans (pB_l (pTake_l (fun z => b76 (rf_stp.mpr z)))))) J3 (ok2.bd b3))
      · refine z_iconst G (v := 1) dX10_readsTab_79 (by decide) ?_
        refine z_goto G 84 dX10_readsTab_80 (by decide) ?_
        refine z_iconst G (v := 1) dX10_readsTab_84 (by decide) ?_
        have h59 := rf_stp.mp b76
        refine z_V G lk_X10_120 dX10_readsTab_85 [_, _] rfl rfl rfl (Nat.le_of_ble_eq_true rfl) ⟨Nat.le_refl _, Nat.le_refl _⟩ (by assumption) ?_
        refine k_X10_takes1 hM (hC.fm ok2.1) t2 hw2 (by rw [h59]; decide) (fun J3 o3 t3 d3 => ?_)
        refine z_pop G dX10_readsTab_88 rfl ?_
        refine z_aload_n G dX10_readsTab_89 rfl ?_
        refine z_V G lk_X10_110 dX10_readsTab_90 [] rfl rfl rfl (Nat.le_of_ble_eq_true rfl) ⟨Nat.le_refl _, Nat.le_refl _⟩ (by assumption) ?_
        refine k_X10_isWell1 hM (o3.2.2.trans hw2) ?_
        refine z_if_eq G 116 dX10_readsTab_93 (by decide) (fun c => absurd c (by decide)) (fun _ => ?_)
        refine z_aload_n G dX10_readsTab_96 rfl ?_
        refine z_getR G fl_X10_28 rfl dX10_readsTab_97 (by assumption) (by assumption) ?_
        refine z_iload_n G dX10_readsTab_100 rfl ?_
        refine z_iload_n G dX10_readsTab_101 rfl ?_
        refine z_iload_n G dX10_readsTab_102 rfl ?_
        refine z_S G lk_X10_130 dX10_readsTab_103 [_, _, _, _] rfl rfl rfl (Nat.le_of_ble_eq_true rfl) ⟨Nat.le_refl _, Nat.le_refl _⟩ ?_
        refine k_X10_fresh (k := 44 + 10 * T) s7 (iN_ti (by omega)) (by omega) ?_
        refine z_aload_n G dX10_readsTab_106 rfl ?_
        refine z_getR G fl_X10_28 rfl dX10_readsTab_107 (by assumption) (by assumption) ?_
        refine z_iconst G (v := 1) dX10_readsTab_110 (by decide) ?_
        refine z_dup2 G dX10_readsTab_111 rfl rfl ?_
        refine z_iald G (1) dX10_readsTab_112 (by assumption) (rfl) (by omega) ?_
        rw [va_at' rfl, freshF_off (by omega), d3, d2, d1]
        rw [show I (m + 7) 1 = iN T from (hdr 1 (by omega)).trans hTw]
        refine z_iconst G (v := 1) dX10_readsTab_113 (by decide) ?_
        refine z_iadd G dX10_readsTab_114 ?_
        refine z_top (y := iN (T + 1)) (iN_add T 1) ?_
        refine z_iast G (1) dX10_readsTab_115 (by assumption) (rfl) (by omega) ?_
        exact z_vret G hq dX10_readsTab_116 (h1 _ (hXe.trans ((pB_r hqq).trans (pB_r (pTake_r h59)))) _ ((ok2.tr o3).tr (OKm.dr.tr OKm.dr)) t3.dr.dr (by rw [va_at' rfl, va_at' rfl]; exact hdr.fresh.up))
/-- a state of reading without a fault -/
def GD (I J : pmI) (m : Nat) : Prop := FM I J m ∧ J m 7 = I m 7 ∧ J m 8 = -1
theorem pNum_e {tp : Nat → Int32} {lo hi a : Nat} {e : Int32 × Nat} (h : pNum tp lo hi a = .inl e) : e.2 = a := by
  unfold pNum at h
  by_cases h1 : tkT tp a = -2
  · rw [if_pos h1] at h
    by_cases h2 : lo ≤ tkN tp a ∧ tkN tp a ≤ hi
    · rw [if_pos h2] at h; cases h
    · rw [if_neg h2] at h; cases h; rfl
  · rw [if_neg h1] at h; cases h; rfl
theorem pB_inl {α β : Type} {x : pR α} {f : α → pR β} {e : Int32 × Nat} (h : pB x f = .inl e) : x = .inl e ∨ ∃ u, x = .inr u ∧ f u = .inl e := by
  cases x with
  | inl e2 => left; cases h; rfl
  | inr u => exact Or.inr ⟨u, rfl, h⟩
theorem pNum_80 {tp : Nat → Int32} {L lo hi a : Nat} {q : Nat × Nat} (hP : TP tp L) (h : pNum tp lo hi a = .inr q) : q.1 ≤ 80 := by
  rw [(pNum_in h).2.2.2.1]; exact hP.ne (by rw [(pNum_in h).1]; decide)
theorem pTake_80 {tp : Nat → Int32} {L a a' : Nat} {c : Int32} (hP : TP tp L) (hc : ¬ c = -1) (h : pTake tp c a = .inr a') : a' ≤ 80 := by
  rw [(pTake_in h).2]; exact hP.ne (by rw [(pTake_in h).1]; exact hc)
theorem pTab_e {tp : Nat → Int32} {L n T a : Nat} {w : Nat → Int32} {e : Int32 × Nat} (ha : a ≤ 80) (hP : TP tp L) (h : pTab tp n T a w = .inl e) : e.2 < 1000 := by
  unfold pTab at h
  by_cases h1 : kdOf (tkT tp a) = 0
  · rw [if_pos h1] at h; cases h; show a < 1000; omega
  · rw [if_neg h1] at h
    have hne : ¬ tkT tp a = -1 := fun z => by rw [z] at h1; exact h1 (by decide)
    have := hP.ne hne
    by_cases h2 : T < 5
    · rw [if_pos h2] at h
      rcases pB_inl h with h3 | ⟨u, hu, h3⟩
      · have := pNum_e h3; omega
      · have := pNum_80 hP hu
        rcases pB_inl h3 with h4 | ⟨v, _, h4⟩
        · have := pTake_e h4; omega
        · cases h4
    · rw [if_neg h2] at h; cases h; show a < 1000; omega
theorem pTab_80 {tp : Nat → Int32} {L n T a : Nat} {w : Nat → Int32} {q : Nat × (Nat → Int32)} (hP : TP tp L) (h : pTab tp n T a w = .inr q) : q.1 ≤ 80 := by
  unfold pTab at h
  by_cases h1 : kdOf (tkT tp a) = 0
  · rw [if_pos h1] at h; cases h
  · rw [if_neg h1] at h
    by_cases h2 : T < 5
    · rw [if_pos h2] at h
      obtain ⟨u, _, h3⟩ := pB_inr h
      obtain ⟨v, hv, h4⟩ := pB_inr h3
      cases h4
      exact pTake_80 hP (by decide) hv
    · rw [if_neg h2] at h; cases h
theorem pLk_e {tp : Nat → Int32} {L n p : Nat} (hP : TP tp L) : ∀ (r j a : Nat) (w : Nat → Int32), a ≤ 80 → (∀ e, pLk tp n p r j a w = .inl e → e.2 < 1000) ∧ ∀ q, pLk tp n p r j a w = .inr q → q.1 ≤ 80 := by
  intro r
  induction r with
  | zero => intro j a w ha; exact ⟨fun e h => (by cases h), fun q h => (by cases h; exact ha)⟩
  | succ r ih =>
    intro j a w ha
    unfold pLk
    by_cases hc : 0 < j ∧ ¬ tkT tp a = 44
    · rw [if_pos hc]; exact ⟨fun e h => (by cases h), fun q h => (by cases h; exact ha)⟩
    · rw [if_neg hc]
      have h9 : (if 0 < j then tkE tp a else a) ≤ 80 := by
        by_cases hj : 0 < j
        · rw [if_pos hj]
          have h44 : tkT tp a = 44 := by
            by_cases z : tkT tp a = 44
            · exact z
            · exact absurd ⟨hj, z⟩ hc
          exact hP.ne (by rw [h44]; decide)
        · rw [if_neg hj]; exact ha
      refine ⟨fun e h => ?_, fun q h => ?_⟩
      · rcases pB_inl h with h3 | ⟨u, hu, h3⟩
        · have := pNum_e h3; omega
        · exact (ih (j + 1) u.1 _ (pNum_80 hP hu)).1 e h3
      · obtain ⟨u, hu, h3⟩ := pB_inr h
        exact (ih (j + 1) u.1 _ (pNum_80 hP hu)).2 q h3
theorem pPage_e {tp : Nat → Int32} {L n p a : Nat} {w : Nat → Int32} {e : Int32 × Nat} (ha : a ≤ 80) (hP : TP tp L) (h : pPage tp n p a w = .inl e) : e.2 < 1000 := by
  rcases pB_inl h with h3 | ⟨u, hu, h3⟩
  · exact (pLk_e hP 3 0 a w ha).1 e h3
  · have := (pLk_e hP 3 0 a w ha).2 u hu
    rcases pB_inl h3 with h4 | ⟨v, _, h4⟩
    · have := pTake_e h4; omega
    · cases h4
theorem pPage_80 {tp : Nat → Int32} {L n p a : Nat} {w : Nat → Int32} {q : Nat × (Nat → Int32)} (hP : TP tp L) (h : pPage tp n p a w = .inr q) : q.1 ≤ 80 := by
  obtain ⟨u, _, h3⟩ := pB_inr h
  obtain ⟨v, hv, h4⟩ := pB_inr h3
  cases h4
  exact pTake_80 hP (by decide) hv
theorem pPage_0 {tp : Nat → Int32} {n p a : Nat} {w : Nat → Int32} {q : Nat × (Nat → Int32)} (h : pPage tp n p a w = .inr q) : q.2 0 = w 0 := by
  obtain ⟨u, hu, h3⟩ := pB_inr h
  obtain ⟨v, hv, h4⟩ := pB_inr h3
  cases h4
  exact pLk_keep 3 0 a w u rfl hu 0 (by omega)
set_option maxHeartbeats 1000000 in
set_option maxRecDepth 20000 in
theorem k_X10_web {E : pmE} {d : Nat} {S : pmS} {I : pmI} {P : pmP} {R : Option Value → pmS → pmI → pmP → Prop} {m : Nat} (hM : MG S P m) {tp : Nat → Int32} (hC : TM I m tp) (h0 : ∀ e, pWeb tp = .inl e → ∀ J, FM I (va_up J m (va_up (J m) 6 (I m 6))) m → J m 6 = 0 → J m 7 = e.1 → R (some (.int (-1000100 - iN e.2))) S J P) (h1 : ∀ w n T, pWeb tp = .inr w → Vd w n T 0 0 → ∀ J, (∀ k, k ≠ m → k ≠ m + 6 → k ≠ m + 7 → J k = I k) → (∀ j, j < 6 ∨ (12 < j ∧ j ≠ 17) → J m j = I m j) → J m 6 = 0 → J m 7 = I m 7 → J m 17 = 0 → E4 (J (m + 6)) w → R (some (.int (iN T))) S J P) : pmX E (d + 5) 0 0 yX10_web [rr E m] S I P R := by
  refine pm_of (by decide) cd_X10_web (by decide) (by decide) (Nat.le_of_ble_eq_true rfl) ?_
  intro C G hq
  obtain ⟨g0, ⟨r0, r1, r2, r3, r4, r5, r6, r7, r8, r9, r10, r11, r12, r13, r14⟩, ⟨s1, s2, s3, s4, s5, s6, s7, s8, s9, s10, s11, s12, s13, s14, s15⟩⟩ := id hM
  obtain ⟨L, hL, hP, hv⟩ := id hC
  have hL80 := hP.1
  have bad : ∀ (J : pmI) (e : Int32 × Nat) (u : Option Value), pWeb tp = .inl e → e.2 < 1000 → BDm I J m e → pmZ E C 210 [some (rr E m), u] [] S J P 0 0 := by
    intro J e u hXe he80 hb
    refine z_aload_n G dX10_web_210 rfl ?_
    refine z_iconst G (v := 0) dX10_web_211 (by decide) ?_
    refine z_putI G fl_X10_88 ft_10_6 rfl rfl rfl dX10_web_212 (by assumption) ?_
    refine z_aload_n G dX10_web_215 rfl ?_
    refine z_V G lk_X10_110 dX10_web_216 [] rfl rfl rfl (Nat.le_of_ble_eq_true rfl) ⟨Nat.le_refl _, Nat.le_refl _⟩ (by assumption) ?_
    refine k_X10_isWell0 hM (e := e.2) (by simp (disch := omega) only [va_at', va_ne', va_up_up]; exact hb.2.2) he80 ?_
    refine z_if_ne G 230 dX10_web_219 (by decide) (fun c => absurd c (by decide)) (fun _ => ?_)
    refine z_ldc G ct_X10_145 dX10_web_222 ?_
    refine z_aload_n G dX10_web_224 rfl ?_
    refine z_getI G fl_X10_107 rfl dX10_web_225 (by assumption) ?_
    try simp (disch := omega) only [va_at', va_ne', va_up_up]
    rw [hb.2.2]
    refine z_isub G dX10_web_228 ?_
    refine z_iret G hq dX10_web_229 (h0 e hXe _ ⟨fun k z1 z2 => by simp (disch := omega) only [va_at', va_ne', va_up_up]; exact hb.1.1 k z1 z2, fun j z => ?_⟩ (by simp (disch := omega) only [va_at', va_ne', va_up_up]) (by simp (disch := omega) only [va_at', va_ne', va_up_up]; exact hb.2.1))
    rw [va_at' rfl, va_at' rfl]
    by_cases h6 : j = 6
    · rw [va_at' h6, h6]
    · rw [va_ne' h6, va_ne' h6]
      exact hb.1.2 j z
  have bad2 : ∀ (J : pmI) (e : Int32 × Nat) (u : Option Value), pWeb tp = .inl e → e.2 < 1000 → BDm I J m e → pmZ E C 185 [some (rr E m), u] [] S J P 0 0 := by
    intro J e u hXe he80 hb
    refine z_aload_n G dX10_web_185 rfl ?_
    refine z_aload_n G dX10_web_186 rfl ?_
    refine z_getR G fl_X10_28 rfl dX10_web_187 (by assumption) (by assumption) ?_
    refine z_iconst G (v := 1) dX10_web_190 (by decide) ?_
    refine z_iald G (1) dX10_web_191 (by assumption) (rfl) (by omega) ?_
    refine z_if_le G 206 dX10_web_192 (by decide) (fun b192 => ?_) (fun b192 => ?_)
    · refine z_iconst G (v := 0) dX10_web_206 (by decide) ?_
      refine z_V G lk_X10_141 dX10_web_207 [_] rfl rfl rfl (Nat.le_of_ble_eq_true rfl) ⟨Nat.le_refl _, Nat.le_refl _⟩ (by assumption) ?_
      refine k_X10_mustN hM hb.2.2 he80 ?_
      exact bad J e u hXe he80 hb
    · refine z_aload_n G dX10_web_195 rfl ?_
      refine z_getI G fl_X10_104 rfl dX10_web_196 (by assumption) ?_
      refine z_if_ne G 206 dX10_web_199 (by decide) (fun b199 => ?_) (fun b199 => ?_)
      · refine z_iconst G (v := 0) dX10_web_206 (by decide) ?_
        refine z_V G lk_X10_141 dX10_web_207 [_] rfl rfl rfl (Nat.le_of_ble_eq_true rfl) ⟨Nat.le_refl _, Nat.le_refl _⟩ (by assumption) ?_
        refine k_X10_mustN hM hb.2.2 he80 ?_
        exact bad J e u hXe he80 hb
      · refine z_iconst G (v := 1) dX10_web_202 (by decide) ?_
        refine z_goto G 207 dX10_web_203 (by decide) ?_
        refine z_V G lk_X10_141 dX10_web_207 [_] rfl rfl rfl (Nat.le_of_ble_eq_true rfl) ⟨Nat.le_refl _, Nat.le_refl _⟩ (by assumption) ?_
        refine k_X10_mustN hM hb.2.2 he80 ?_
        exact bad J e u hXe he80 hb
  have badL : ∀ (J : pmI) (e : Int32 × Nat) (u : Option Value), pWeb tp = .inl e → e.2 < 1000 → BDm I J m e → pmZ E C 97 [some (rr E m), u] [] S J P 0 0 := by
    intro J e u hXe he80 hb
    refine z_aload_n G dX10_web_97 rfl ?_
    refine z_V G lk_X10_110 dX10_web_98 [] rfl rfl rfl (Nat.le_of_ble_eq_true rfl) ⟨Nat.le_refl _, Nat.le_refl _⟩ (by assumption) ?_
    refine k_X10_isWell0 hM hb.2.2 he80 ?_
    refine z_if_eq G 153 dX10_web_101 (by decide) (fun _ => ?_) (fun c => absurd c (by decide))
    refine z_aload_n G dX10_web_153 rfl ?_
    refine z_V G lk_X10_110 dX10_web_154 [] rfl rfl rfl (Nat.le_of_ble_eq_true rfl) ⟨Nat.le_refl _, Nat.le_refl _⟩ (by assumption) ?_
    refine k_X10_isWell0 hM hb.2.2 he80 ?_
    refine z_if_eq G 185 dX10_web_157 (by decide) (fun _ => ?_) (fun c => absurd c (by decide))
    exact bad2 J e u hXe he80 hb
  have badT : ∀ (J : pmI) (e : Int32 × Nat) (u : Option Value), pWeb tp = .inl e → e.2 < 1000 → BDm I J m e → pmZ E C 153 [some (rr E m), u] [] S J P 0 0 := by
    intro J e u hXe he80 hb
    refine z_aload_n G dX10_web_153 rfl ?_
    refine z_V G lk_X10_110 dX10_web_154 [] rfl rfl rfl (Nat.le_of_ble_eq_true rfl) ⟨Nat.le_refl _, Nat.le_refl _⟩ (by assumption) ?_
    refine k_X10_isWell0 hM hb.2.2 he80 ?_
    refine z_if_eq G 185 dX10_web_157 (by decide) (fun _ => ?_) (fun c => absurd c (by decide))
    exact bad2 J e u hXe he80 hb
  have okB : ∀ (J K : pmI) (e : Int32 × Nat), GD I J m → BDm J K m e → BDm I K m e := fun J K e g b => ⟨g.1.tr b.1, b.2⟩
  have tabs : ∀ (f T a n : Nat) (J : pmI) (w : Nat → Int32) (u : Option Value), a ≤ 80 → 2 ≤ n → n ≤ 8 → T + f = 6 → T ≤ 5 → GD I J m → MT J m tp a → E4 (J (m + 7)) w → VT w n T → pTb tp n f T a w = pWeb tp → pmZ E C 153 [some (rr E m), u] [] S J P 0 0 := by
    intro f
    induction f with
    | zero => intro T a n J w u _ _ _ hf hT5; omega
    | succ f ih =>
      intro T a n J w u ha80 hn2 h8 hf hT5 gd tJ eJ hV hX
      have hd1 : J (m + 7) 1 = iN T := (eJ 1 (by omega)).trans hV.2.1
      have fin : kdOf (tkT tp a) = 0 → pmZ E C 185 [some (rr E m), u] [] S J P 0 0 := by
        intro hk
        refine z_aload_n G dX10_web_185 rfl ?_
        refine z_aload_n G dX10_web_186 rfl ?_
        refine z_getR G fl_X10_28 rfl dX10_web_187 (by assumption) (by assumption) ?_
        refine z_iconst G (v := 1) dX10_web_190 (by decide) ?_
        refine z_iald G (1) dX10_web_191 (by assumption) (rfl) (by omega) ?_
        rw [hd1]
        refine z_if_le G 206 dX10_web_192 (by decide) (fun b192 => ?_) (fun b192 => ?_)
        · have hT0 : ¬ 0 < T := by rw [iN_lit, iN_le (by omega) (by omega)] at b192; omega
          refine z_iconst G (v := 0) dX10_web_206 (by decide) ?_
          have hno : ¬ (0 < T ∧ tkT tp a = -1) := fun z => hT0 z.1
          have hXb : pWeb tp = .inl (1, a) := by rw [← hX]; unfold pTb; rw [if_neg hno]; exact pB_l (by unfold pTab; rw [if_pos hk])
          refine z_V G lk_X10_141 dX10_web_207 [_] rfl rfl rfl (Nat.le_of_ble_eq_true rfl) ⟨Nat.le_refl _, Nat.le_refl _⟩ (by assumption) ?_
          refine k_X10_must0 hM tJ gd.2.2 (fun J2 b2 => ?_)
          exact bad J2 (1, a) u hXb (by show a < 1000; omega) (okB J J2 _ gd b2)
        · have hT0 : 0 < T := by rw [iN_lit, iN_le (by omega) (by omega)] at b192; omega
          refine z_aload_n G dX10_web_195 rfl ?_
          refine z_getI G fl_X10_104 rfl dX10_web_196 (by assumption) ?_
          rw [tJ.2.1]
          refine z_if_ne G 206 dX10_web_199 (by decide) (fun b199 => ?_) (fun b199 => ?_)
          · refine z_iconst G (v := 0) dX10_web_206 (by decide) ?_
            have hno : ¬ (0 < T ∧ tkT tp a = -1) := fun z => b199 (rf_end.mpr z.2)
            have hXb : pWeb tp = .inl (1, a) := by rw [← hX]; unfold pTb; rw [if_neg hno]; exact pB_l (by unfold pTab; rw [if_pos hk])
            refine z_V G lk_X10_141 dX10_web_207 [_] rfl rfl rfl (Nat.le_of_ble_eq_true rfl) ⟨Nat.le_refl _, Nat.le_refl _⟩ (by assumption) ?_
            refine k_X10_must0 hM tJ gd.2.2 (fun J2 b2 => ?_)
            exact bad J2 (1, a) u hXb (by show a < 1000; omega) (okB J J2 _ gd b2)
          · refine z_iconst G (v := 1) dX10_web_202 (by decide) ?_
            refine z_goto G 207 dX10_web_203 (by decide) ?_
            have hXg : pWeb tp = .inr w := by rw [← hX]; unfold pTb; rw [if_pos ⟨hT0, rf_end.mp b199⟩]
            refine z_V G lk_X10_141 dX10_web_207 [_] rfl rfl rfl (Nat.le_of_ble_eq_true rfl) ⟨Nat.le_refl _, Nat.le_refl _⟩ (by assumption) ?_
            refine k_X10_must1 hM gd.2.2 ?_
            refine z_aload_n G dX10_web_210 rfl ?_
            refine z_iconst G (v := 0) dX10_web_211 (by decide) ?_
            refine z_putI G fl_X10_88 ft_10_6 rfl rfl rfl dX10_web_212 (by assumption) ?_
            refine z_aload_n G dX10_web_215 rfl ?_
            refine z_V G lk_X10_110 dX10_web_216 [] rfl rfl rfl (Nat.le_of_ble_eq_true rfl) ⟨Nat.le_refl _, Nat.le_refl _⟩ (by assumption) ?_
            refine k_X10_isWell1 hM (by simp (disch := omega) only [va_at', va_ne', va_up_up]; exact gd.2.2) ?_
            refine z_if_ne G 230 dX10_web_219 (by decide) (fun _ => ?_) (fun c => absurd c (by decide))
            refine z_aload_n G dX10_web_230 rfl ?_
            refine z_getR G fl_X10_28 rfl dX10_web_231 (by assumption) (by assumption) ?_
            refine z_iconst G (v := 0) dX10_web_234 (by decide) ?_
            refine z_aload_n G dX10_web_235 rfl ?_
            refine z_getR G fl_X10_25 rfl dX10_web_236 (by assumption) (by assumption) ?_
            refine z_iconst G (v := 0) dX10_web_239 (by decide) ?_
            refine z_S G lk_X10_146 dX10_web_240 [_, _, _, _] rfl rfl rfl (Nat.le_of_ble_eq_true rfl) ⟨Nat.le_refl _, Nat.le_refl _⟩ ?_
            refine k_X10_copies s7 s6 (by omega) (f := 0) (g := 0) rfl rfl (by omega) (by omega) (by omega) ?_
            refine z_aload_n G dX10_web_243 rfl ?_
            refine z_iconst G (v := 0) dX10_web_244 (by decide) ?_
            refine z_putI G fl_X10_150 ft_10_17 rfl rfl rfl dX10_web_245 (by assumption) ?_
            try simp (disch := omega) only [va_at', va_ne', va_up_up]
            refine z_aload_n G dX10_web_248 rfl ?_
            refine z_getR G fl_X10_25 rfl dX10_web_249 (by assumption) (by assumption) ?_
            refine z_iconst G (v := 1) dX10_web_252 (by decide) ?_
            refine z_iald G (1) dX10_web_253 (by assumption) (rfl) (by omega) ?_
            try simp (disch := omega) only [va_at', va_ne', va_up_up]
            rw [cpy_in (by omega), show 0 + (1 - 0) = 1 from rfl, hd1]
            exact z_iret G hq dX10_web_254 (h1 w n T hXg (hV.vd hn2 h8 hT0 hT5) _ (fun k z1 z2 z3 => by simp (disch := omega) only [va_at', va_ne', va_up_up]; exact gd.1.1 k z1 z3) (fun j z => by simp (disch := omega) only [va_at', va_ne', va_up_up]; exact gd.1.2 j (by omega)) (by simp (disch := omega) only [va_at', va_ne', va_up_up]) (by simp (disch := omega) only [va_at', va_ne', va_up_up]; exact gd.2.1) (by simp (disch := omega) only [va_at', va_ne', va_up_up]) (fun i hi => by simp (disch := omega) only [va_at', va_ne', va_up_up]; rw [cpy_in (by omega), show 0 + (i - 0) = i by omega]; exact eJ i hi))
      refine z_aload_n G dX10_web_153 rfl ?_
      refine z_V G lk_X10_110 dX10_web_154 [] rfl rfl rfl (Nat.le_of_ble_eq_true rfl) ⟨Nat.le_refl _, Nat.le_refl _⟩ (by assumption) ?_
      refine k_X10_isWell1 hM gd.2.2 ?_
      refine z_if_eq G 185 dX10_web_157 (by decide) (fun c => absurd c (by decide)) (fun _ => ?_)
      refine z_aload_n G dX10_web_160 rfl ?_
      refine z_getI G fl_X10_104 rfl dX10_web_161 (by assumption) ?_
      refine z_iconst G (v := 1) dX10_web_164 (by decide) ?_
      refine z_icmp_ne G 185 dX10_web_165 (by decide) (fun b165 => ?_) (fun b165 => ?_)
      · refine fin ?_
        by_cases hk : kdOf (tkT tp a) = 0
        · exact hk
        · exact absurd (tJ.kd hk).1 b165
      · refine z_aload_n G dX10_web_168 rfl ?_
        refine z_getI G fl_X10_101 rfl dX10_web_169 (by assumption) ?_
        rw [tJ.nk b165]
        refine z_S G lk_X10_127 dX10_web_172 [_] rfl rfl rfl (Nat.le_of_ble_eq_true rfl) ⟨Nat.le_refl _, Nat.le_refl _⟩ ?_
        refine k_X10_kindOf ?_
        refine z_if_le G 185 dX10_web_175 (by decide) (fun b175 => ?_) (fun b175 => ?_)
        · refine fin ?_
          rw [iN_lit, iN_le (by have := kdOf_5 (tkT tp a); omega) (by omega)] at b175
          omega
        · refine z_aload_n G dX10_web_178 rfl ?_
          have hk : ¬ kdOf (tkT tp a) = 0 := by rw [iN_lit, iN_le (by have := kdOf_5 (tkT tp a); omega) (by omega)] at b175; omega
          have hno : ¬ (0 < T ∧ tkT tp a = -1) := fun z => by rw [z.2] at hk; exact hk (by decide)
          have hX1 : (pB (pTab tp n T a w) fun q => pTb tp n f (T + 1) q.1 q.2) = pWeb tp := by rw [← hX]; show _ = (if 0 < T ∧ tkT tp a = -1 then _ else _); rw [if_neg hno]
          refine z_V G lk_X10_138 dX10_web_179 [] rfl rfl rfl (Nat.le_of_ble_eq_true rfl) ⟨Nat.le_refl _, Nat.le_refl _⟩ (by assumption) ?_
          refine k_X10_readsTab hM (hC.fm gd.1) tJ ha80 gd.2.2 hk (by omega) h8 eJ hV.1 hV.2.1 hT5 rfl ?_ ?_
          · intro e he J2 b2
            refine z_goto G 153 dX10_web_182 (by decide) ?_
            exact badT J2 e u (hX1.symm.trans (pB_l he)) (pTab_e ha80 hP he) (okB J J2 e gd b2)
          · intro q hqq J2 o2 t2 e2
            refine z_goto G 153 dX10_web_182 (by decide) ?_
            have hT4 := (pTab_in hqq).2.1
            exact ih (T + 1) q.1 n J2 q.2 u (pTab_80 hP hqq) hn2 h8 (by omega) (by omega) ⟨gd.1.tr o2.1, o2.2.1.trans gd.2.1, o2.2.2.trans gd.2.2⟩ t2 e2 (pTab_VT hV (by omega) h8 hqq) ((pB_r (f := fun q => pTb tp n f (T + 1) q.1 q.2) hqq).symm.trans hX1)
  have pages : ∀ (r p a n : Nat) (x : Int32) (J : pmI) (w : Nat → Int32), x.toInt = (p : Int) → a ≤ 80 → 2 ≤ n → n ≤ 8 → p + r = n → GD I J m → MT J m tp a → E4 (J (m + 7)) w → w 0 = iN n → (∀ q, pPg tp n r p a w = .inr q → VT q.2 n 0) → (pB (pPg tp n r p a w) fun q2 => pTb tp n 6 0 q2.1 q2.2) = pWeb tp → pmZ E C 97 [some (rr E m), some (.int x)] [] S J P 0 0 := by
    intro r
    induction r with
    | zero =>
      intro p a n x J w hx ha80 hn2 h8 hr gd tJ eJ hw0 hVT hX
      obtain rfl : p = n := by omega
      have hd0 : J (m + 7) 0 = iN p := (eJ 0 (by omega)).trans hw0
      refine z_aload_n G dX10_web_97 rfl ?_
      refine z_V G lk_X10_110 dX10_web_98 [] rfl rfl rfl (Nat.le_of_ble_eq_true rfl) ⟨Nat.le_refl _, Nat.le_refl _⟩ (by assumption) ?_
      refine k_X10_isWell1 hM gd.2.2 ?_
      refine z_if_eq G 153 dX10_web_101 (by decide) (fun c => absurd c (by decide)) (fun _ => ?_)
      refine z_iload_n G dX10_web_104 rfl ?_
      refine z_aload_n G dX10_web_105 rfl ?_
      refine z_getR G fl_X10_28 rfl dX10_web_106 (by assumption) (by assumption) ?_
      refine z_iconst G (v := 0) dX10_web_109 (by decide) ?_
      refine z_iald G (0) dX10_web_110 (by assumption) (rfl) (by omega) ?_
      rw [hd0]
      refine z_icmp_ge G 153 dX10_web_111 (by decide) (fun _ => ?_) (fun c => absurd c (fun z => z (by simp (disch := omega) only [iN_lit, iN_add, iN_sub, iN_mul, iN_an, iN_le, iN_lt, iN_eq, iN_of hx] <;> omega)))
      exact tabs 6 0 a p J w _ ha80 hn2 h8 (by omega) (by omega) gd tJ eJ (hVT (a, w) rfl) hX
    | succ r ih =>
      intro p a n x J w hx ha80 hn2 h8 hr gd tJ eJ hw0 hVT hX
      have hd0 : J (m + 7) 0 = iN n := (eJ 0 (by omega)).trans hw0
      refine z_aload_n G dX10_web_97 rfl ?_
      refine z_V G lk_X10_110 dX10_web_98 [] rfl rfl rfl (Nat.le_of_ble_eq_true rfl) ⟨Nat.le_refl _, Nat.le_refl _⟩ (by assumption) ?_
      refine k_X10_isWell1 hM gd.2.2 ?_
      refine z_if_eq G 153 dX10_web_101 (by decide) (fun c => absurd c (by decide)) (fun _ => ?_)
      refine z_iload_n G dX10_web_104 rfl ?_
      refine z_aload_n G dX10_web_105 rfl ?_
      refine z_getR G fl_X10_28 rfl dX10_web_106 (by assumption) (by assumption) ?_
      refine z_iconst G (v := 0) dX10_web_109 (by decide) ?_
      refine z_iald G (0) dX10_web_110 (by assumption) (rfl) (by omega) ?_
      rw [hd0]
      refine z_icmp_ge G 153 dX10_web_111 (by decide) (fun c => absurd c (by simp (disch := omega) only [iN_lit, iN_add, iN_sub, iN_mul, iN_an, iN_le, iN_lt, iN_eq, iN_of hx]; omega)) (fun _ => ?_)
      refine z_aload_n G dX10_web_114 rfl ?_
      refine z_aload_n G dX10_web_115 rfl ?_
      refine z_getI G fl_X10_104 rfl dX10_web_116 (by assumption) ?_
      refine z_iconst G (v := 1) dX10_web_119 (by decide) ?_
      refine z_icmp_ne G 136 dX10_web_120 (by decide) (fun b120 => ?_) (fun b120 => ?_)
      · refine z_iconst G (v := 0) dX10_web_136 (by decide) ?_
        refine z_iconst G (v := 1) dX10_web_137 (by decide) ?_
        have hne : ¬ tkT tp a = 108 := fun z => b120 ((tJ.let (by decide)).mpr z).1
        have hXb : pWeb tp = .inl (1, a) := by rw [← hX]; exact pB_l (pB_l (pTake_l hne))
        refine z_V G lk_X10_120 dX10_web_138 [_, _] rfl rfl rfl (Nat.le_of_ble_eq_true rfl) ⟨Nat.le_refl _, Nat.le_refl _⟩ (by assumption) ?_
        refine k_X10_takes0 hM tJ gd.2.2 (fun J2 b2 _ d2 => ?_)
        refine z_pop G dX10_web_141 rfl ?_
        refine z_aload_n G dX10_web_142 rfl ?_
        refine z_iload_n G dX10_web_143 rfl ?_
        refine z_V G lk_X10_134 dX10_web_144 [_] rfl rfl rfl (Nat.le_of_ble_eq_true rfl) ⟨Nat.le_refl _, Nat.le_refl _⟩ (by assumption) ?_
        refine k_X10_readsPageN hM (e0 := a) b2.2.2 (by omega) hx (by omega) (fun J3 f3 => ?_)
        refine z_iinc G (v := 1) dX10_web_147 (by decide) rfl rfl ?_
        refine z_goto G 97 dX10_web_150 (by decide) ?_
        exact badL J3 (1, a) _ hXb (by show a < 1000; omega) ((okB J J2 _ gd b2).ok ⟨⟨fun k z1 z2 => f3 k z2, fun j _ => by rw [f3 m (by omega)]⟩, by rw [f3 m (by omega)], by rw [f3 m (by omega)]⟩)
      · refine z_aload_n G dX10_web_123 rfl ?_
        refine z_getI G fl_X10_101 rfl dX10_web_124 (by assumption) ?_
        refine z_bipush G (v := 108) dX10_web_127 (by decide) ?_
        refine z_icmp_ne G 136 dX10_web_129 (by decide) (fun b129 => ?_) (fun b129 => ?_)
        · refine z_iconst G (v := 0) dX10_web_136 (by decide) ?_
          refine z_iconst G (v := 1) dX10_web_137 (by decide) ?_
          have hne : ¬ tkT tp a = 108 := fun z => b129 ((tJ.let (by decide)).mpr z).2
          have hXb : pWeb tp = .inl (1, a) := by rw [← hX]; exact pB_l (pB_l (pTake_l hne))
          refine z_V G lk_X10_120 dX10_web_138 [_, _] rfl rfl rfl (Nat.le_of_ble_eq_true rfl) ⟨Nat.le_refl _, Nat.le_refl _⟩ (by assumption) ?_
          refine k_X10_takes0 hM tJ gd.2.2 (fun J2 b2 _ d2 => ?_)
          refine z_pop G dX10_web_141 rfl ?_
          refine z_aload_n G dX10_web_142 rfl ?_
          refine z_iload_n G dX10_web_143 rfl ?_
          refine z_V G lk_X10_134 dX10_web_144 [_] rfl rfl rfl (Nat.le_of_ble_eq_true rfl) ⟨Nat.le_refl _, Nat.le_refl _⟩ (by assumption) ?_
          refine k_X10_readsPageN hM (e0 := a) b2.2.2 (by omega) hx (by omega) (fun J3 f3 => ?_)
          refine z_iinc G (v := 1) dX10_web_147 (by decide) rfl rfl ?_
          refine z_goto G 97 dX10_web_150 (by decide) ?_
          exact badL J3 (1, a) _ hXb (by show a < 1000; omega) ((okB J J2 _ gd b2).ok ⟨⟨fun k z1 z2 => f3 k z2, fun j _ => by rw [f3 m (by omega)]⟩, by rw [f3 m (by omega)], by rw [f3 m (by omega)]⟩)
        · refine z_iconst G (v := 1) dX10_web_132 (by decide) ?_
          refine z_goto G 137 dX10_web_133 (by decide) ?_
          refine z_iconst G (v := 1) dX10_web_137 (by decide) ?_
          have h108 : tkT tp a = 108 := (tJ.let (by decide)).mp ⟨b120, b129⟩
          refine z_V G lk_X10_120 dX10_web_138 [_, _] rfl rfl rfl (Nat.le_of_ble_eq_true rfl) ⟨Nat.le_refl _, Nat.le_refl _⟩ (by assumption) ?_
          refine k_X10_takes1 hM (hC.fm gd.1) tJ gd.2.2 (by rw [h108]; decide) (fun J2 o2 t2 d2 => ?_)
          have gd2 : GD I J2 m := ⟨gd.1.tr o2.1, o2.2.1.trans gd.2.1, o2.2.2.trans gd.2.2⟩
          have hE80 : tkE tp a ≤ 80 := hP.ne (by rw [h108]; decide)
          refine z_pop G dX10_web_141 rfl ?_
          refine z_aload_n G dX10_web_142 rfl ?_
          refine z_iload_n G dX10_web_143 rfl ?_
          refine z_V G lk_X10_134 dX10_web_144 [_] rfl rfl rfl (Nat.le_of_ble_eq_true rfl) ⟨Nat.le_refl _, Nat.le_refl _⟩ (by assumption) ?_
          refine k_X10_readsPage hM (hC.fm gd2.1) t2 hE80 gd2.2.2 hx (by omega) (by omega) h8 (by rw [d2]; exact eJ) hw0 rfl ?_ ?_
          · intro e he J3 b3
            refine z_iinc G (v := 1) dX10_web_147 (by decide) rfl rfl ?_
            refine z_goto G 97 dX10_web_150 (by decide) ?_
            exact badL J3 e _ (by rw [← hX]; exact pB_l ((pB_r (pTake_r h108)).trans (pB_l he))) (pPage_e hE80 hP he) (okB J2 J3 e gd2 b3)
          · intro q hqq J3 o3 t3 e3
            refine z_iinc G (v := 1) dX10_web_147 (by decide) rfl rfl ?_
            refine z_goto G 97 dX10_web_150 (by decide) ?_
            have e9 : pPg tp n (r + 1) p a w = pPg tp n r (p + 1) q.1 q.2 := (pB_r (pTake_r h108)).trans (pB_r hqq)
            exact ih (p + 1) q.1 n _ J3 q.2 (by simp (disch := omega) only [iN_lit, iN_add, iN_sub, iN_mul, iN_an, iN_of hx]; exact iN_ti2 (by omega) (by omega)) (pPage_80 hP hqq) hn2 h8 (by omega) ⟨gd2.1.tr o3.1, o3.2.1.trans gd2.2.1, o3.2.2.trans gd2.2.2⟩ t3 e3 ((pPage_0 hqq).trans hw0) (fun z hz => hVT z (e9.trans hz)) (by rw [← hX, e9])
  have zero : ∀ (r k : Nat) (x : Int32) (J : pmI), x.toInt = (k : Int) → k + r = 124 → (∀ q, q ≠ m + 7 → J q = I q) → (∀ i, i < k → J (m + 7) i = 0) → pmZ E C 2 [some (rr E m), some (.int x)] [] S J P 0 0 := by
    intro r
    induction r with
    | zero =>
      intro k x J hx hr f1 e1
      obtain rfl : k = 124 := by omega
      refine z_iload_n G dX10_web_2 rfl ?_
      refine z_bipush G (v := 124) dX10_web_3 (by decide) ?_
      refine z_icmp_ge G 21 dX10_web_5 (by decide) (fun _ => ?_) (fun c => absurd c (fun z => z (by simp (disch := omega) only [iN_lit, iN_add, iN_sub, iN_mul, iN_an, iN_le, iN_lt, iN_eq, iN_of hx] <;> omega)))
      refine z_aload_n G dX10_web_21 rfl ?_
      refine z_iconst G (v := 0) dX10_web_22 (by decide) ?_
      refine z_putI G fl_X10_92 ft_10_9 rfl rfl rfl dX10_web_23 (by assumption) ?_
      try simp (disch := omega) only [va_at', va_ne', va_up_up]
      refine z_aload_n G dX10_web_26 rfl ?_
      refine z_iconst G (v := -1) dX10_web_27 (by decide) ?_
      refine z_putI G fl_X10_107 ft_10_8 rfl rfl rfl dX10_web_28 (by assumption) ?_
      try simp (disch := omega) only [va_at', va_ne', va_up_up]
      refine z_aload_n G dX10_web_31 rfl ?_
      have gd0 : GD I (va_up J m (va_up (va_up (J m) 9 0) 8 (-1))) m := ⟨⟨fun q z1 z2 => by rw [va_ne' z1]; exact f1 q z2, fun j z => by simp (disch := omega) only [va_at', va_ne', va_up_up]; rw [f1 m (by omega)]⟩, by simp (disch := omega) only [va_at', va_ne', va_up_up]; rw [f1 m (by omega)], by simp (disch := omega) only [va_at', va_ne', va_up_up]⟩
      refine z_V G lk_X10_117 dX10_web_32 [] rfl rfl rfl (Nat.le_of_ble_eq_true rfl) ⟨Nat.le_refl _, Nat.le_refl _⟩ (by assumption) ?_
      refine k_X10_advances hM (a := 0) (hC.fm gd0.1) (by simp (disch := omega) only [va_at', va_ne', va_up_up]; rfl) (by omega) (fun J1 q1 q2 t1 => ?_)
      have gd1 : GD I J1 m := ⟨gd0.1.tr ⟨fun k z _ => q1 k z, fun j z => q2 j (by omega)⟩, (q2 7 (by omega)).trans gd0.2.1, (q2 8 (by omega)).trans gd0.2.2⟩
      have z1 : E4 (J1 (m + 7)) (fun _ => 0) := fun i hi => by rw [q1 (m + 7) (by omega), va_ne' (by omega)]; exact e1 i hi
      refine z_aload_n G dX10_web_35 rfl ?_
      refine z_aload_n G dX10_web_36 rfl ?_
      refine z_getI G fl_X10_104 rfl dX10_web_37 (by assumption) ?_
      refine z_iconst G (v := 1) dX10_web_40 (by decide) ?_
      refine z_icmp_ne G 57 dX10_web_41 (by decide) (fun b41 => ?_) (fun b41 => ?_)
      · refine z_iconst G (v := 0) dX10_web_57 (by decide) ?_
        refine z_iconst G (v := 1) dX10_web_58 (by decide) ?_
        have hne : ¬ tkT tp 0 = 119 := fun z => b41 ((t1.let (by decide)).mpr z).1
        have hXb : pWeb tp = .inl (1, 0) := pB_l (pB_l (pTake_l hne))
        refine z_V G lk_X10_120 dX10_web_59 [_, _] rfl rfl rfl (Nat.le_of_ble_eq_true rfl) ⟨Nat.le_refl _, Nat.le_refl _⟩ (by assumption) ?_
        refine k_X10_takes0 hM t1 gd1.2.2 (fun J2 b2 _ d2 => ?_)
        refine z_pop G dX10_web_62 rfl ?_
        refine z_aload_n G dX10_web_63 rfl ?_
        refine z_getR G fl_X10_28 rfl dX10_web_64 (by assumption) (by assumption) ?_
        refine z_iconst G (v := 0) dX10_web_67 (by decide) ?_
        refine z_aload_n G dX10_web_68 rfl ?_
        refine z_iconst G (v := 2) dX10_web_69 (by decide) ?_
        refine z_bipush G (v := 8) dX10_web_70 (by decide) ?_
        refine z_V G lk_X10_124 dX10_web_72 [_, _] rfl rfl rfl (Nat.le_of_ble_eq_true rfl) ⟨Nat.le_refl _, Nat.le_refl _⟩ (by assumption) ?_
        refine k_X10_figureN hM (e0 := 0) b2.2.2 (by omega) ?_
        refine z_iast G (0) dX10_web_75 (by assumption) (rfl) (by omega) ?_
        refine z_aload_n G dX10_web_76 rfl ?_
        refine z_aload_n G dX10_web_77 rfl ?_
        refine z_getI G fl_X10_104 rfl dX10_web_78 (by assumption) ?_
        refine z_iconst G (v := 4) dX10_web_81 (by decide) ?_
        refine z_icmp_ne G 89 dX10_web_82 (by decide) (fun b82 => ?_) (fun b82 => ?_)
        · refine z_iconst G (v := 0) dX10_web_89 (by decide) ?_
          refine z_iconst G (v := 1) dX10_web_90 (by decide) ?_
          refine z_V G lk_X10_120 dX10_web_91 [_, _] rfl rfl rfl (Nat.le_of_ble_eq_true rfl) ⟨Nat.le_refl _, Nat.le_refl _⟩ (by assumption) ?_
          refine k_X10_takesN hM (e0 := 0) (by rw [va_ne' (by omega)]; exact b2.2.2) (by omega) ?_
          refine z_pop G dX10_web_94 rfl ?_
          refine z_iconst G (v := 0) dX10_web_95 (by decide) ?_
          refine z_istore_n G dX10_web_96 (Nat.le_of_ble_eq_true rfl) rfl ?_
          exact badL _ (1, 0) _ hXb (by decide) ((okB _ _ _ gd1 b2).ok OKm.dr)
        · refine z_iconst G (v := 1) dX10_web_85 (by decide) ?_
          refine z_goto G 90 dX10_web_86 (by decide) ?_
          refine z_iconst G (v := 1) dX10_web_90 (by decide) ?_
          refine z_V G lk_X10_120 dX10_web_91 [_, _] rfl rfl rfl (Nat.le_of_ble_eq_true rfl) ⟨Nat.le_refl _, Nat.le_refl _⟩ (by assumption) ?_
          refine k_X10_takesN hM (e0 := 0) (by rw [va_ne' (by omega)]; exact b2.2.2) (by omega) ?_
          refine z_pop G dX10_web_94 rfl ?_
          refine z_iconst G (v := 0) dX10_web_95 (by decide) ?_
          refine z_istore_n G dX10_web_96 (Nat.le_of_ble_eq_true rfl) rfl ?_
          exact badL _ (1, 0) _ hXb (by decide) ((okB _ _ _ gd1 b2).ok OKm.dr)
      · refine z_aload_n G dX10_web_44 rfl ?_
        refine z_getI G fl_X10_101 rfl dX10_web_45 (by assumption) ?_
        refine z_bipush G (v := 119) dX10_web_48 (by decide) ?_
        refine z_icmp_ne G 57 dX10_web_50 (by decide) (fun b50 => ?_) (fun b50 => ?_)
        · refine z_iconst G (v := 0) dX10_web_57 (by decide) ?_
          refine z_iconst G (v := 1) dX10_web_58 (by decide) ?_
          have hne : ¬ tkT tp 0 = 119 := fun z => b50 ((t1.let (by decide)).mpr z).2
          have hXb : pWeb tp = .inl (1, 0) := pB_l (pB_l (pTake_l hne))
          refine z_V G lk_X10_120 dX10_web_59 [_, _] rfl rfl rfl (Nat.le_of_ble_eq_true rfl) ⟨Nat.le_refl _, Nat.le_refl _⟩ (by assumption) ?_
          refine k_X10_takes0 hM t1 gd1.2.2 (fun J2 b2 _ d2 => ?_)
          refine z_pop G dX10_web_62 rfl ?_
          refine z_aload_n G dX10_web_63 rfl ?_
          refine z_getR G fl_X10_28 rfl dX10_web_64 (by assumption) (by assumption) ?_
          refine z_iconst G (v := 0) dX10_web_67 (by decide) ?_
          refine z_aload_n G dX10_web_68 rfl ?_
          refine z_iconst G (v := 2) dX10_web_69 (by decide) ?_
          refine z_bipush G (v := 8) dX10_web_70 (by decide) ?_
          refine z_V G lk_X10_124 dX10_web_72 [_, _] rfl rfl rfl (Nat.le_of_ble_eq_true rfl) ⟨Nat.le_refl _, Nat.le_refl _⟩ (by assumption) ?_
          refine k_X10_figureN hM (e0 := 0) b2.2.2 (by omega) ?_
          refine z_iast G (0) dX10_web_75 (by assumption) (rfl) (by omega) ?_
          refine z_aload_n G dX10_web_76 rfl ?_
          refine z_aload_n G dX10_web_77 rfl ?_
          refine z_getI G fl_X10_104 rfl dX10_web_78 (by assumption) ?_
          refine z_iconst G (v := 4) dX10_web_81 (by decide) ?_
          refine z_icmp_ne G 89 dX10_web_82 (by decide) (fun b82 => ?_) (fun b82 => ?_)
          · refine z_iconst G (v := 0) dX10_web_89 (by decide) ?_
            refine z_iconst G (v := 1) dX10_web_90 (by decide) ?_
            refine z_V G lk_X10_120 dX10_web_91 [_, _] rfl rfl rfl (Nat.le_of_ble_eq_true rfl) ⟨Nat.le_refl _, Nat.le_refl _⟩ (by assumption) ?_
            refine k_X10_takesN hM (e0 := 0) (by rw [va_ne' (by omega)]; exact b2.2.2) (by omega) ?_
            refine z_pop G dX10_web_94 rfl ?_
            refine z_iconst G (v := 0) dX10_web_95 (by decide) ?_
            refine z_istore_n G dX10_web_96 (Nat.le_of_ble_eq_true rfl) rfl ?_
            exact badL _ (1, 0) _ hXb (by decide) ((okB _ _ _ gd1 b2).ok OKm.dr)
          · refine z_iconst G (v := 1) dX10_web_85 (by decide) ?_
            refine z_goto G 90 dX10_web_86 (by decide) ?_
            refine z_iconst G (v := 1) dX10_web_90 (by decide) ?_
            refine z_V G lk_X10_120 dX10_web_91 [_, _] rfl rfl rfl (Nat.le_of_ble_eq_true rfl) ⟨Nat.le_refl _, Nat.le_refl _⟩ (by assumption) ?_
            refine k_X10_takesN hM (e0 := 0) (by rw [va_ne' (by omega)]; exact b2.2.2) (by omega) ?_
            refine z_pop G dX10_web_94 rfl ?_
            refine z_iconst G (v := 0) dX10_web_95 (by decide) ?_
            refine z_istore_n G dX10_web_96 (Nat.le_of_ble_eq_true rfl) rfl ?_
            exact badL _ (1, 0) _ hXb (by decide) ((okB _ _ _ gd1 b2).ok OKm.dr)
        · refine z_iconst G (v := 1) dX10_web_53 (by decide) ?_
          refine z_goto G 58 dX10_web_54 (by decide) ?_
          refine z_iconst G (v := 1) dX10_web_58 (by decide) ?_
          have h119 : tkT tp 0 = 119 := (t1.let (by decide)).mp ⟨b41, b50⟩
          refine z_V G lk_X10_120 dX10_web_59 [_, _] rfl rfl rfl (Nat.le_of_ble_eq_true rfl) ⟨Nat.le_refl _, Nat.le_refl _⟩ (by assumption) ?_
          refine k_X10_takes1 hM (hC.fm gd1.1) t1 gd1.2.2 (by rw [h119]; decide) (fun J2 o2 t2 d2 => ?_)
          have gd2 : GD I J2 m := ⟨gd1.1.tr o2.1, o2.2.1.trans gd1.2.1, o2.2.2.trans gd1.2.2⟩
          have hE80 : tkE tp 0 ≤ 80 := hP.ne (by rw [h119]; decide)
          refine z_pop G dX10_web_62 rfl ?_
          refine z_aload_n G dX10_web_63 rfl ?_
          refine z_getR G fl_X10_28 rfl dX10_web_64 (by assumption) (by assumption) ?_
          refine z_iconst G (v := 0) dX10_web_67 (by decide) ?_
          refine z_aload_n G dX10_web_68 rfl ?_
          refine z_iconst G (v := 2) dX10_web_69 (by decide) ?_
          refine z_bipush G (v := 8) dX10_web_70 (by decide) ?_
          refine z_V G lk_X10_124 dX10_web_72 [_, _] rfl rfl rfl (Nat.le_of_ble_eq_true rfl) ⟨Nat.le_refl _, Nat.le_refl _⟩ (by assumption) ?_
          refine k_X10_figure (lo := 2) (hi := 8) hM (hC.fm gd2.1) t2 gd2.2.2 rfl rfl (by omega) (by omega) ?_ ?_
          · intro e he J3 b3 ea d3
            refine z_iast G (0) dX10_web_75 (by assumption) (rfl) (by omega) ?_
            refine z_aload_n G dX10_web_76 rfl ?_
            refine z_aload_n G dX10_web_77 rfl ?_
            refine z_getI G fl_X10_104 rfl dX10_web_78 (by assumption) ?_
            refine z_iconst G (v := 4) dX10_web_81 (by decide) ?_
            refine z_icmp_ne G 89 dX10_web_82 (by decide) (fun b82 => ?_) (fun b82 => ?_)
            · refine z_iconst G (v := 0) dX10_web_89 (by decide) ?_
              refine z_iconst G (v := 1) dX10_web_90 (by decide) ?_
              refine z_V G lk_X10_120 dX10_web_91 [_, _] rfl rfl rfl (Nat.le_of_ble_eq_true rfl) ⟨Nat.le_refl _, Nat.le_refl _⟩ (by assumption) ?_
              refine k_X10_takesN hM (e0 := e.2) (by rw [va_ne' (by omega)]; exact b3.2.2) (by omega) ?_
              refine z_pop G dX10_web_94 rfl ?_
              refine z_iconst G (v := 0) dX10_web_95 (by decide) ?_
              refine z_istore_n G dX10_web_96 (Nat.le_of_ble_eq_true rfl) rfl ?_
              exact badL _ e _ (pB_l ((pB_r (pTake_r h119)).trans (pB_l he))) (by omega) ((okB _ _ _ gd2 b3).ok OKm.dr)
            · refine z_iconst G (v := 1) dX10_web_85 (by decide) ?_
              refine z_goto G 90 dX10_web_86 (by decide) ?_
              refine z_iconst G (v := 1) dX10_web_90 (by decide) ?_
              refine z_V G lk_X10_120 dX10_web_91 [_, _] rfl rfl rfl (Nat.le_of_ble_eq_true rfl) ⟨Nat.le_refl _, Nat.le_refl _⟩ (by assumption) ?_
              refine k_X10_takesN hM (e0 := e.2) (by rw [va_ne' (by omega)]; exact b3.2.2) (by omega) ?_
              refine z_pop G dX10_web_94 rfl ?_
              refine z_iconst G (v := 0) dX10_web_95 (by decide) ?_
              refine z_istore_n G dX10_web_96 (Nat.le_of_ble_eq_true rfl) rfl ?_
              exact badL _ e _ (pB_l ((pB_r (pTake_r h119)).trans (pB_l he))) (by omega) ((okB _ _ _ gd2 b3).ok OKm.dr)
          · intro q hqq J3 o3 t3 d3
            refine z_iast G (0) dX10_web_75 (by assumption) (rfl) (by omega) ?_
            refine z_aload_n G dX10_web_76 rfl ?_
            refine z_aload_n G dX10_web_77 rfl ?_
            refine z_getI G fl_X10_104 rfl dX10_web_78 (by assumption) ?_
            rw [va_ne' (by omega), t3.2.1]
            have o4 := o3.tr (OKm.dr (I := J3) (m := m) (v := va_up (J3 (m + 7)) 0 (iN q.2)))
            have gd4 : GD I (va_up J3 (m + 7) (va_up (J3 (m + 7)) 0 (iN q.2))) m := ⟨gd2.1.tr o4.1, o4.2.1.trans gd2.2.1, o4.2.2.trans gd2.2.2⟩
            obtain ⟨_, n2, n8, q1e, _⟩ := pNum_in hqq
            have hq80 : q.1 ≤ 80 := by rw [q1e]; exact hP.ne (by rw [(pNum_in hqq).1]; decide)
            refine z_iconst G (v := 4) dX10_web_81 (by decide) ?_
            refine z_icmp_ne G 89 dX10_web_82 (by decide) (fun b82 => ?_) (fun b82 => ?_)
            · refine z_iconst G (v := 0) dX10_web_89 (by decide) ?_
              refine z_iconst G (v := 1) dX10_web_90 (by decide) ?_
              refine z_V G lk_X10_120 dX10_web_91 [_, _] rfl rfl rfl (Nat.le_of_ble_eq_true rfl) ⟨Nat.le_refl _, Nat.le_refl _⟩ (by assumption) ?_
              refine k_X10_takes0 hM t3.dr gd4.2.2 (fun J5 b5 _ d5 => ?_)
              refine z_pop G dX10_web_94 rfl ?_
              refine z_iconst G (v := 0) dX10_web_95 (by decide) ?_
              refine z_istore_n G dX10_web_96 (Nat.le_of_ble_eq_true rfl) rfl ?_
              exact badL J5 (1, q.1) _ (pB_l ((pB_r (pTake_r h119)).trans ((pB_r hqq).trans (pB_l (pTake_l (fun z => b82 (rf_stp.mpr z))))))) (by show q.1 < 1000; omega) (okB _ _ _ gd4 b5)
            · refine z_iconst G (v := 1) dX10_web_85 (by decide) ?_
              refine z_goto G 90 dX10_web_86 (by decide) ?_
              refine z_iconst G (v := 1) dX10_web_90 (by decide) ?_
              have h59 := rf_stp.mp b82
              refine z_V G lk_X10_120 dX10_web_91 [_, _] rfl rfl rfl (Nat.le_of_ble_eq_true rfl) ⟨Nat.le_refl _, Nat.le_refl _⟩ (by assumption) ?_
              refine k_X10_takes1 hM (hC.fm gd4.1) t3.dr gd4.2.2 (by rw [h59]; decide) (fun J5 o5 t5 d5 => ?_)
              refine z_pop G dX10_web_94 rfl ?_
              refine z_iconst G (v := 0) dX10_web_95 (by decide) ?_
              refine z_istore_n G dX10_web_96 (Nat.le_of_ble_eq_true rfl) rfl ?_
              have hLaw : pLaw tp 0 = .inr (tkE tp q.1, q.2) := (pB_r (pTake_r h119)).trans ((pB_r hqq).trans (pB_r (pTake_r h59)))
              exact pages q.2 0 (tkE tp q.1) q.2 0 J5 (w00 q.2) rfl (hP.ne (by rw [h59]; decide)) n2 n8 (by omega) ⟨gd4.1.tr o5.1, o5.2.1.trans gd4.2.1, o5.2.2.trans gd4.2.2⟩ t5 (by rw [d5, va_at' rfl, d3, d2]; exact z1.up) (va_at' rfl) (fun z hz => w00_VT n2 n8 hz) (by unfold pWeb; rw [pB_r hLaw])
    | succ r ih =>
      intro k x J hx hr f1 e1
      refine z_iload_n G dX10_web_2 rfl ?_
      refine z_bipush G (v := 124) dX10_web_3 (by decide) ?_
      refine z_icmp_ge G 21 dX10_web_5 (by decide) (fun c => absurd c (by simp (disch := omega) only [iN_lit, iN_add, iN_sub, iN_mul, iN_an, iN_le, iN_lt, iN_eq, iN_of hx]; omega)) (fun _ => ?_)
      refine z_aload_n G dX10_web_8 rfl ?_
      refine z_getR G fl_X10_28 rfl dX10_web_9 (by assumption) (by assumption) ?_
      refine z_iload_n G dX10_web_12 rfl ?_
      refine z_iconst G (v := 0) dX10_web_13 (by decide) ?_
      refine z_iast G (k) dX10_web_14 (by assumption) (hx) (by omega) ?_
      refine z_iinc G (v := 1) dX10_web_15 (by decide) rfl rfl ?_
      refine z_goto G 2 dX10_web_18 (by decide) ?_
      refine ih (k + 1) _ _ (by simp (disch := omega) only [iN_lit, iN_add, iN_sub, iN_mul, iN_an, iN_of hx]; exact iN_ti2 (by omega) (by omega)) (by omega) (fun q hq => by rw [va_ne' hq]; exact f1 q hq) (fun i hi => ?_)
      rw [va_at' rfl]
      by_cases hik : i = k
      · subst hik; exact va_at' rfl
      · rw [va_ne' hik]; exact e1 i (by omega)
  refine z_iconst G (v := 0) dX10_web_0 (by decide) ?_
  refine z_istore_n G dX10_web_1 (Nat.le_of_ble_eq_true rfl) rfl ?_
  exact zero 124 0 0 I rfl (by omega) (fun _ _ => rfl) (fun i hi => absurd hi (by omega))
set_option maxHeartbeats 1000000 in
set_option maxRecDepth 20000 in
theorem k_X10_fault {E : pmE} {d : Nat} {S : pmS} {I : pmI} {P : pmP} {R : Option Value → pmS → pmI → pmP → Prop} {m : Nat} (hM : MG S P m) (h : R (some (.int (I m 7))) S I P) : pmX E d 0 0 yX10_fault [rr E m] S I P R := by
  refine pm_of (by decide) cd_X10_fault (by decide) (by decide) (Nat.le_of_ble_eq_true rfl) ?_
  intro C G hq
  obtain ⟨g0, ⟨r0, r1, r2, r3, r4, r5, r6, r7, r8, r9, r10, r11, r12, r13, r14⟩, ⟨s1, s2, s3, s4, s5, s6, s7, s8, s9, s10, s11, s12, s13, s14, s15⟩⟩ := id hM
  refine z_aload_n G dX10_fault_0 rfl ?_
  refine z_getI G fl_X10_114 rfl dX10_fault_1 (by assumption) ?_
  exact z_iret G hq dX10_fault_4 (h)
set_option maxHeartbeats 1000000 in
set_option maxRecDepth 20000 in
theorem k_X9_fault {E : pmE} {d : Nat} {S : pmS} {I : pmI} {P : pmP} {R : Option Value → pmS → pmI → pmP → Prop} (hX : XG S P) (h : R (some (.int (I 2 4))) S I P) : pmX E d 0 0 yX9_fault [rr E 0] S I P R := by
  refine pm_of (by decide) cd_X9_fault (by decide) (by decide) (Nat.le_of_ble_eq_true rfl) ?_
  intro C G hq
  obtain ⟨⟨a0, a1, a2, a3, a4, a5, a6, a7, a8⟩, hRG, hRdG, hWG, hDG, ⟨z1, z2, z3, z4⟩, hIG, hFG, hAG⟩ := id hX
  refine z_aload_n G dX9_fault_0 rfl ?_
  refine z_getR G fl_X9_18 rfl dX9_fault_1 (by assumption) (by assumption) ?_
  refine z_getI G fl_X9_139 rfl dX9_fault_4 hRdG.1 ?_
  exact z_iret G hq dX9_fault_7 (h)
set_option maxHeartbeats 1000000 in
set_option maxRecDepth 20000 in
theorem k_X9_web {E : pmE} {d : Nat} {S : pmS} {I : pmI} {P : pmP} {R : Option Value → pmS → pmI → pmP → Prop} (hX : XG S P) {tp : Nat → Int32} (hC : TC I tp) (h0 : ∀ e, pWeb tp = .inl e → ∀ J, (∀ k, k < 2 ∨ 27 ≤ k → J k = I k) → J 2 3 = 0 → J 2 4 = e.1 → R (some (.int (-1000100 - iN e.2))) S J P) (h1 : ∀ w n T, pWeb tp = .inr w → Vd w n T 0 0 → ∀ J, (∀ k, k < 2 ∨ 50 < k → J k = I k) → J 50 1 = I 50 1 → J 50 2 = 0 → J 2 3 = 0 → J 2 4 = I 2 4 → WR J 27 w n → DR J P 30 w T 0 → R (some (.int (iN T))) S J P) : pmX E (d + 6) 0 0 yX9_web [rr E 0] S I P R := by
  refine pm_of (by decide) cd_X9_web (by decide) (by decide) (Nat.le_of_ble_eq_true rfl) ?_
  intro C G hq
  obtain ⟨⟨a0, a1, a2, a3, a4, a5, a6, a7, a8⟩, hRG, hRdG, hWG, hDG, ⟨z1, z2, z3, z4⟩, hIG, hFG, hAG⟩ := id hX
  refine z_aload_n G dX9_web_0 rfl ?_
  refine z_getR G fl_X9_18 rfl dX9_web_1 (by assumption) (by assumption) ?_
  refine z_V G lk_X9_116 dX9_web_4 [] rfl rfl rfl (Nat.le_of_ble_eq_true rfl) ⟨Nat.le_refl _, Nat.le_refl _⟩ hRdG.1 ?_
  refine k_X5_readTape hRdG hC ?_ ?_
  · intro e he J1 f1
    refine z_istore_n G dX9_web_7 (Nat.le_of_ble_eq_true rfl) rfl ?_
    refine z_aload_n G dX9_web_8 rfl ?_
    refine z_getR G fl_X9_18 rfl dX9_web_9 (by assumption) (by assumption) ?_
    refine z_iconst G (v := 0) dX9_web_12 (by decide) ?_
    refine z_putI G fl_X9_112 ft_5_3 rfl rfl rfl dX9_web_13 hRdG.1 ?_
    refine z_iload_n G dX9_web_16 rfl ?_
    refine z_if_ne G 31 dX9_web_17 (by decide) (fun c => absurd c (by decide)) (fun _ => ?_)
    refine z_ldc G ct_X9_120 dX9_web_20 ?_
    refine z_aload_n G dX9_web_22 rfl ?_
    refine z_getR G fl_X9_18 rfl dX9_web_23 (by assumption) (by assumption) ?_
    refine z_getI G fl_X9_121 rfl dX9_web_26 hRdG.1 ?_
    try simp (disch := omega) only [va_at', va_ne', va_up_up]
    rw [f1.2.2]
    refine z_isub G dX9_web_29 ?_
    exact z_iret G hq dX9_web_30 (h0 e he _ (fun k hk => by rw [va_ne' (by omega)]; exact f1.1 k hk) (by simp (disch := omega) only [va_at', va_ne', va_up_up]) (by simp (disch := omega) only [va_at', va_ne', va_up_up]; exact f1.2.1))
  · intro w n T hpw hV hone J1 k1 W1 D1
    refine z_istore_n G dX9_web_7 (Nat.le_of_ble_eq_true rfl) rfl ?_
    refine z_aload_n G dX9_web_8 rfl ?_
    refine z_getR G fl_X9_18 rfl dX9_web_9 (by assumption) (by assumption) ?_
    refine z_iconst G (v := 0) dX9_web_12 (by decide) ?_
    refine z_putI G fl_X9_112 ft_5_3 rfl rfl rfl dX9_web_13 hRdG.1 ?_
    refine z_iload_n G dX9_web_16 rfl ?_
    refine z_if_ne G 31 dX9_web_17 (by decide) (fun _ => ?_) (fun c => absurd c (by decide))
    obtain ⟨c1, c2, c3, c4, c5, c6, c7⟩ := id hRdG
    obtain ⟨v1, v2, v3, v4, v5, v6, v7, v8⟩ := id hV
    have W2 : WR (va_up J1 2 (va_up (J1 2) 3 0)) 4 w n := W1.congr (fun k a b => va_ne' (by omega))
    have D2 : DR (va_up J1 2 (va_up (J1 2) 3 0)) P 7 w T 0 := D1.congr c7 v2.2.2 (by omega) (fun _ _ _ => rfl) (fun k a b => va_ne' (by omega))
    refine z_aload_n G dX9_web_31 rfl ?_
    refine z_getR G fl_X9_25 rfl dX9_web_32 (by assumption) (by assumption) ?_
    refine z_aload_n G dX9_web_35 rfl ?_
    refine z_getR G fl_X9_18 rfl dX9_web_36 (by assumption) (by assumption) ?_
    refine z_getR G fl_X9_124 rfl dX9_web_39 c1 c3 ?_
    refine z_V G lk_X9_125 dX9_web_42 [_] rfl rfl rfl (Nat.le_of_ble_eq_true rfl) ⟨Nat.le_refl _, Nat.le_refl _⟩ hWG.1 ?_
    refine k_X8_become hWG c6 (by omega) W2 v5 v1.2.2 (fun J3 f3 W3 => ?_)
    refine z_aload_n G dX9_web_45 rfl ?_
    refine z_getR G fl_X9_32 rfl dX9_web_46 (by assumption) (by assumption) ?_
    refine z_aload_n G dX9_web_49 rfl ?_
    refine z_getR G fl_X9_18 rfl dX9_web_50 (by assumption) (by assumption) ?_
    refine z_getR G fl_X9_129 rfl dX9_web_53 c1 c4 ?_
    refine z_V G lk_X9_130 dX9_web_56 [_] rfl rfl rfl (Nat.le_of_ble_eq_true rfl) ⟨Nat.le_refl _, Nat.le_refl _⟩ hDG.1.1 ?_
    refine k_X1_become hDG c7 (by omega) (D2.congr c7 v2.2.2 (by omega) (fun _ _ _ => rfl) (fun k a b => f3 k (by omega))) v2.1 v2.2.2 v4.1 v4.2 (fun i hi => (v6 i hi).l6) (fun i hi => absurd hi (by omega)) (fun J4 f4 D4 => ?_)
    refine z_aload_n G dX9_web_59 rfl ?_
    refine z_getR G fl_X9_39 rfl dX9_web_60 (by assumption) (by assumption) ?_
    refine z_V G lk_X9_133 dX9_web_63 [] rfl rfl rfl (Nat.le_of_ble_eq_true rfl) ⟨Nat.le_refl _, Nat.le_refl _⟩ z1 ?_
    refine k_X3_forget z1 ?_
    refine z_aload_n G dX9_web_66 rfl ?_
    refine z_getR G fl_X9_32 rfl dX9_web_67 (by assumption) (by assumption) ?_
    refine z_getI G fl_X9_136 rfl dX9_web_70 hDG.1.1 ?_
    rw [va_ne' (by omega), D4.1, iN_of v2.1]
    exact z_iret G hq dX9_web_73 (h1 w n T hpw hV _ (fun k hk => by rw [va_ne' (by omega), f4 k (by omega), f3 k (by omega), va_ne' (by omega)]; exact k1.1 k (by omega)) (by rw [va_at' rfl, va_ne' (by omega), f4 50 (by omega), f3 50 (by omega), va_ne' (by omega), k1.1 50 (by omega)]) (by rw [va_at' rfl, va_at' rfl]) (by rw [va_ne' (by omega), f4 2 (by omega), f3 2 (by omega), va_at' rfl, va_at' rfl]) (by rw [va_ne' (by omega), f4 2 (by omega), f3 2 (by omega), va_at' rfl, va_ne' (by omega)]; exact k1.2.2.2) (W3.congr (fun k a b => by rw [va_ne' (by omega)]; exact f4 k (by omega))) (D4.congr hDG v2.2.2 (by omega) (fun _ _ _ => rfl) (fun k a b => va_ne' (by omega))))
