set_option maxHeartbeats 1000000 in
set_option maxRecDepth 20000 in
theorem k_X10_isShown {E : pmE} {d : Nat} {S : pmS} {I : pmI} {P : pmP} {R : Option Value → pmS → pmI → pmP → Prop} {m : Nat} (hM : MG S P m) {n T t c : Nat} {w : Nat → Int32} (hw : I (m + 6) = w) (hV : Vd w n T t c) {old : Nat → Int32} (hold : ∀ i, 124 ≤ i → I (m + 8) i = old i) {pg L code : Nat} (hpg : pg < 8) (hL : L ≤ 4) (hcode : code < 5 ^ L) (h1 : okS pg (va_cpy w old 0 0 124) (dgs L code) → ∀ J, Fr8 I J m → (∀ i, 124 ≤ i → J (m + 8) i = old i) → (∀ i, i < L → J (m + 14) i = iN ((dgs L code).getD i 0)) → R (some (.int 1)) S J P) (h0 : ¬ okS pg (va_cpy w old 0 0 124) (dgs L code) → ∀ J, Fr8 I J m → (∀ i, 124 ≤ i → J (m + 8) i = old i) → R (some (.int 0)) S J P) : pmX E (d + 4) 0 0 yX10_isShown [rr E m, .int (iN pg), .int (iN code), .int (iN L)] S I P R := by
  refine pm_of (by decide) cd_X10_isShown (by decide) (by decide) (Nat.le_of_ble_eq_true rfl) ?_
  intro C G hq
  obtain ⟨g0, ⟨r0, r1, r2, r3, r4, r5, r6, r7, r8, r9, r10, r11, r12, r13, r14⟩, ⟨s1, s2, s3, s4, s5, s6, s7, s8, s9, s10, s11, s12, s13, s14, s15⟩⟩ := id hM
  have hp5 := pow5_le hL
  have fail : ∀ (u : Int32) (k : Nat) (x7 : Option Value) (un : Int32) (J : pmI), Fr8 I J m → (∀ i, 124 ≤ i → J (m + 8) i = old i) → ¬ okS pg (va_cpy w old 0 0 124) (dgs L code) → pmZ E C 43 [some (rr E m), some (.int (iN pg)), some (.int (iN code)), some (.int (iN L)), some (.int un), some (.int 0), some (.int u), x7] [] S J P 0 0 := by
    intro u k x7 un J hJ hh hno
    refine z_iload G dX10_isShown_43 rfl ?_
    refine z_iload_n G dX10_isShown_45 rfl ?_
    refine z_icmp_ge G 153 dX10_isShown_46 (by decide) (fun b46 => ?_) (fun b46 => ?_)
    · refine z_iload G dX10_isShown_153 rfl ?_
      refine z_if_eq G 173 dX10_isShown_155 (by decide) (fun _ => ?_) (fun c => absurd c (fun z => z rfl))
      refine z_iconst G (v := 0) dX10_isShown_173 (by decide) ?_
      exact z_zret G hq dX10_isShown_174 rfl (h0 hno J hJ hh)
    · refine z_iload G dX10_isShown_49 rfl ?_
      refine z_if_eq G 153 dX10_isShown_51 (by decide) (fun _ => ?_) (fun c => absurd c (fun z => z rfl))
      refine z_iload G dX10_isShown_153 rfl ?_
      refine z_if_eq G 173 dX10_isShown_155 (by decide) (fun _ => ?_) (fun c => absurd c (fun z => z rfl))
      refine z_iconst G (v := 0) dX10_isShown_173 (by decide) ?_
      exact z_zret G hq dX10_isShown_174 rfl (h0 hno J hJ hh)
  have loop : ∀ (r k : Nat) (u un : Int32) (x7 : Option Value) (J : pmI) (v : Nat → Int32) (T t c : Nat), u.toInt = (k : Int) → k + r = L → (1 ≤ r → un = iN (5 ^ (r - 1))) → Fr8 I J m → (∀ i, 124 ≤ i → J (m + 8) i = old i) → J (m + 8) = v → Vd v n T t c → (okS pg (va_cpy w old 0 0 124) (dgs L code) ↔ okS pg v (dgs r code)) → (∀ i, i < k → J (m + 14) i = iN ((dgs L code).getD i 0)) → pmZ E C 43 [some (rr E m), some (.int (iN pg)), some (.int (iN code)), some (.int (iN L)), some (.int un), some (.int 1), some (.int u), x7] [] S J P 0 0 := by
    intro r
    induction r with
    | zero =>
      intro k u un x7 J v T t c hu hr hun hJ hh hJv hVv hok hli
      obtain rfl : k = L := by omega
      subst hJv
      obtain ⟨s, p, hN, hpn⟩ := hVv.nw
      refine z_iload G dX10_isShown_43 rfl ?_
      refine z_iload_n G dX10_isShown_45 rfl ?_
      refine z_icmp_ge G 153 dX10_isShown_46 (by decide) (fun _ => ?_) (fun c => absurd c (fun z => z (by simp (disch := omega) only [iN_lit, iN_add, iN_sub, iN_mul, iN_an, iN_le, iN_lt, iN_eq, iN_of hu] <;> omega)))
      refine z_iload G dX10_isShown_153 rfl ?_
      refine z_if_eq G 173 dX10_isShown_155 (by decide) (fun c => absurd c (by decide)) (fun _ => ?_)
      refine z_aload_n G dX10_isShown_158 rfl ?_
      refine z_getR G fl_X10_31 rfl dX10_isShown_159 (by assumption) (by assumption) ?_
      refine z_S G lk_X10_157 dX10_isShown_162 [_] rfl rfl rfl (Nat.le_of_ble_eq_true rfl) ⟨Nat.le_refl _, Nat.le_refl _⟩ ?_
      refine k_X10_seen s8 hN ?_
      rw [iN_of hN.2.2.2.2.1]
      refine z_iload_n G dX10_isShown_165 rfl ?_
      refine z_icmp_ne G 173 dX10_isShown_166 (by decide) (fun b166 => ?_) (fun b166 => ?_)
      · refine z_iconst G (v := 0) dX10_isShown_173 (by decide) ?_
        exact z_zret G hq dX10_isShown_174 rfl (h0 (fun z => b166 (by have z2 : seeF (J (m + 8)) = pg := hok.mp z; rw [hN.see] at z2; rw [z2])) J hJ hh)
      · refine z_iconst G (v := 1) dX10_isShown_169 (by decide) ?_
        refine z_goto G 174 dX10_isShown_170 (by decide) ?_
        exact z_zret G hq dX10_isShown_174 rfl (h1 (hok.mpr (by show seeF (J (m + 8)) = pg; have h9 := hVv.1.2.2; rw [hN.see]; rw [iN_eq (by omega) (by omega)] at b166; exact b166)) J hJ hh hli)
    | succ r ih =>
      intro k u un x7 J v T t c hu hr hun hJ hh hJv hVv hok hli
      subst hJv
      obtain ⟨s, p, hN, hpn⟩ := hVv.nw
      obtain ⟨cn, c1, c2, c3, c4⟩ := hVv.2.2.2.2.1 p hpn
      have hpr := pow5_le (show r ≤ 4 by omega)
      have hun2 : un = iN (5 ^ r) := hun (by omega)
      subst hun2
      have hcl : code < 625 := by omega
      have hdv : code / 5 ^ r ≤ code := Nat.div_le_self _ _
      have hd5 : code / 5 ^ r % 5 < 5 := Nat.mod_lt _ (by omega)
      have hdg : (dgs L code).getD k 0 = code / 5 ^ r % 5 := by rw [dgs_get L code k (by omega), show L - 1 - k = r by omega]
      have hok2 : okS pg (va_cpy w old 0 0 124) (dgs L code) ↔ (mayP (J (m + 8)) (code / 5 ^ r % 5) ∧ okS pg (doP (J (m + 8)) (code / 5 ^ r % 5)) (dgs r code)) := hok
      generalize hdd : code / 5 ^ r % 5 = dd at *
      have hu5 : 1 ≤ r → 5 ^ r / 5 = 5 ^ (r - 1) := fun h => by
        obtain ⟨r', rfl⟩ : ∃ r', r = r' + 1 := ⟨r - 1, by omega⟩
        rw [Nat.pow_succ, Nat.mul_div_cancel _ (by omega)]; rfl
      refine z_iload G dX10_isShown_43 rfl ?_
      refine z_iload_n G dX10_isShown_45 rfl ?_
      refine z_icmp_ge G 153 dX10_isShown_46 (by decide) (fun c => absurd c (by simp (disch := omega) only [iN_lit, iN_add, iN_sub, iN_mul, iN_an, iN_le, iN_lt, iN_eq, iN_of hu]; omega)) (fun _ => ?_)
      refine z_iload G dX10_isShown_49 rfl ?_
      refine z_if_eq G 153 dX10_isShown_51 (by decide) (fun c => absurd c (by decide)) (fun _ => ?_)
      refine z_iload_n G dX10_isShown_54 rfl ?_
      refine z_iload G dX10_isShown_55 rfl ?_
      refine z_idiv G dX10_isShown_57 (by rw [iN_lit, iN_eq (by omega) (by omega)]; omega) ?_
      rw [iN_div (by omega) (by omega)]
      refine z_iconst G (v := 5) dX10_isShown_58 (by decide) ?_
      refine z_irem G dX10_isShown_59 (by decide) ?_
      refine z_top (y := iN dd) (by rw [iN_remL (by omega), hdd]) ?_
      refine z_istore G dX10_isShown_60 (Nat.le_of_ble_eq_true rfl) rfl ?_
      refine z_aload_n G dX10_isShown_62 rfl ?_
      refine z_getR G fl_X10_50 rfl dX10_isShown_63 (by assumption) (by assumption) ?_
      refine z_iload G dX10_isShown_66 rfl ?_
      refine z_iload G dX10_isShown_68 rfl ?_
      refine z_iast G (k) dX10_isShown_70 (by assumption) (hu) (by omega) ?_
      refine z_iload G dX10_isShown_71 rfl ?_
      refine z_iconst G (v := 5) dX10_isShown_73 (by decide) ?_
      refine z_idiv G dX10_isShown_74 (by decide) ?_
      refine z_istore G dX10_isShown_75 (Nat.le_of_ble_eq_true rfl) rfl ?_
      refine z_iload G dX10_isShown_77 rfl ?_
      refine z_iconst G (v := 2) dX10_isShown_79 (by decide) ?_
      refine z_icmp_ge G 95 dX10_isShown_80 (by decide) (fun b80 => ?_) (fun b80 => ?_)
      · have hd2 : 2 ≤ dd := by rw [iN_lit, iN_le (by omega) (by omega)] at b80; exact b80
        refine z_aload_n G dX10_isShown_95 rfl ?_
        refine z_getR G fl_X10_31 rfl dX10_isShown_96 (by assumption) (by assumption) ?_
        refine z_iload G dX10_isShown_99 rfl ?_
        refine z_iconst G (v := 2) dX10_isShown_101 (by decide) ?_
        refine z_isub G dX10_isShown_102 ?_
        refine z_top (y := iN (dd - 2)) (by simp (disch := omega) only [iN_lit, iN_add, iN_sub, iN_mul, iN_an] <;> exact congrArg iN (by omega)) ?_
        refine z_S G lk_X10_183 dX10_isShown_103 [_, _] rfl rfl rfl (Nat.le_of_ble_eq_true rfl) ⟨Nat.le_refl _, Nat.le_refl _⟩ ?_
        refine k_X10_mayFollow s8 (t := t) (s := s) (p := p) (by rw [va_ne' (show m + 8 ≠ m + 14 by omega)]; exact hN) ?_ ?_
        · intro hm
          rw [va_ne' (show m + 8 ≠ m + 14 by omega)] at hm
          have hmm : dd - 2 < cn ∧ (¬ J (m + 8) (44 + 10 * t) = 3 ∨ T < 5) := ⟨by have := hm.1; rw [iN_of c1, iN_lt (by omega) (by omega)] at this; exact this, hm.2.imp id (fun z => by rw [iN_of hVv.2.1.1, iN_lit, iN_lt (by have := hVv.2.1.2.2; omega) (by omega)] at z; exact z)⟩
          have hm2 : mayP (J (m + 8)) dd := (hVv.mayL hN c1 hd2).mpr hmm
          obtain ⟨T9, t9, hV9, _⟩ := hVv.doK hd5 hm2
          refine z_istore G dX10_isShown_106 (Nat.le_of_ble_eq_true rfl) rfl ?_
          refine z_iload G dX10_isShown_108 rfl ?_
          refine z_if_eq G 131 dX10_isShown_110 (by decide) (fun c => absurd c (by decide)) (fun _ => ?_)
          refine z_iload G dX10_isShown_113 rfl ?_
          refine z_iconst G (v := 2) dX10_isShown_115 (by decide) ?_
          refine z_icmp_ge G 131 dX10_isShown_116 (by decide) (fun _ => ?_) (fun c => absurd c (fun z => z b80))
          refine z_iload G dX10_isShown_131 rfl ?_
          refine z_if_eq G 147 dX10_isShown_133 (by decide) (fun c => absurd c (by decide)) (fun _ => ?_)
          refine z_aload_n G dX10_isShown_136 rfl ?_
          refine z_getR G fl_X10_31 rfl dX10_isShown_137 (by assumption) (by assumption) ?_
          refine z_iload G dX10_isShown_140 rfl ?_
          refine z_iconst G (v := 2) dX10_isShown_142 (by decide) ?_
          refine z_isub G dX10_isShown_143 ?_
          refine z_top (y := iN (dd - 2)) (by simp (disch := omega) only [iN_lit, iN_add, iN_sub, iN_mul, iN_an] <;> exact congrArg iN (by omega)) ?_
          refine z_S G lk_X10_190 dX10_isShown_144 [_, _] rfl rfl rfl (Nat.le_of_ble_eq_true rfl) ⟨Nat.le_refl _, Nat.le_refl _⟩ ?_
          refine k_X10_follows s8 (n := n) (T := T) (t := t) (c := c) (s := s) (p := p) (cn := cn) (jn := dd - 2) (by rw [va_ne' (show m + 8 ≠ m + 14 by omega)]; exact hVv) (by rw [va_ne' (show m + 8 ≠ m + 14 by omega)]; exact hN) hpn (iN_ti (by omega)) (by rw [va_ne' (show m + 8 ≠ m + 14 by omega)]; exact c1) hmm.1 (by rw [va_ne' (show m + 8 ≠ m + 14 by omega)]; exact hmm.2) ?_
          rw [va_ne' (show m + 8 ≠ m + 14 by omega)]
          refine z_iinc G (v := 1) dX10_isShown_147 (by decide) rfl rfl ?_
          refine z_goto G 43 dX10_isShown_150 (by decide) ?_
          refine ih (k + 1) _ _ _ _ (doP (J (m + 8)) dd) T9 t9 c (by simp (disch := omega) only [iN_lit, iN_add, iN_sub, iN_mul, iN_an, iN_of hu]; exact iN_ti2 (by omega) (by omega)) (by omega) (fun h => by rw [iN_divL (by omega), hu5 h]) (fun q a b => by rw [va_ne' a, va_ne' b]; exact hJ q a b) (fun i hi => ?_) ?_ hV9 ?_ (fun i hi => ?_)
          · rw [va_at' rfl, ← hVv.doL hN hd2, hVv.doHi hd5 hm2 i hi]; exact hh i hi
          · rw [va_at' rfl, ← hVv.doL hN hd2]
          · rw [hok2]; exact ⟨fun z => z.2, fun z => ⟨hm2, z⟩⟩
          · rw [va_ne' (show m + 14 ≠ m + 8 by omega), va_at' rfl]
            by_cases e : i = k
            · subst e; rw [va_at' rfl, hdg]
            · rw [va_ne' e]; exact hli i (by omega)
        · intro hm
          rw [va_ne' (show m + 8 ≠ m + 14 by omega)] at hm
          have hm2 : ¬ mayP (J (m + 8)) dd := fun z => hm (by have := (hVv.mayL hN c1 hd2).mp z; exact ⟨by rw [iN_of c1, iN_lt (by omega) (by omega)]; exact this.1, this.2.imp id (fun z => by rw [iN_of hVv.2.1.1, iN_lit, iN_lt (by have := hVv.2.1.2.2; omega) (by omega)]; exact z)⟩)
          refine z_istore G dX10_isShown_106 (Nat.le_of_ble_eq_true rfl) rfl ?_
          refine z_iload G dX10_isShown_108 rfl ?_
          refine z_if_eq G 131 dX10_isShown_110 (by decide) (fun _ => ?_) (fun c => absurd c (by decide))
          refine z_iload G dX10_isShown_131 rfl ?_
          refine z_if_eq G 147 dX10_isShown_133 (by decide) (fun _ => ?_) (fun c => absurd c (by decide))
          refine z_iinc G (v := 1) dX10_isShown_147 (by decide) rfl rfl ?_
          refine z_goto G 43 dX10_isShown_150 (by decide) ?_
          exact fail _ k _ _ _ (fun q a b => by rw [va_ne' b]; exact hJ q a b) (fun i hi => by rw [va_ne' (show m + 8 ≠ m + 14 by omega)]; exact hh i hi) (fun z => hm2 (hok2.mp z).1)
      · have hd2 : dd < 2 := by rw [iN_lit, iN_le (by omega) (by omega)] at b80; omega
        refine z_aload_n G dX10_isShown_83 rfl ?_
        refine z_getR G fl_X10_31 rfl dX10_isShown_84 (by assumption) (by assumption) ?_
        refine z_iload G dX10_isShown_87 rfl ?_
        refine z_S G lk_X10_193 dX10_isShown_89 [_, _] rfl rfl rfl (Nat.le_of_ble_eq_true rfl) ⟨Nat.le_refl _, Nat.le_refl _⟩ ?_
        refine k_X10_mayGo s8 (t := t) (by rw [va_ne' (show m + 8 ≠ m + 14 by omega)]; exact hN.1) hN.2.1 ?_ ?_
        · intro hm
          refine z_goto G 106 dX10_isShown_92 (by decide) ?_
          rw [va_ne' (show m + 8 ≠ m + 14 by omega)] at hm
          have hm2 : mayP (J (m + 8)) dd := by unfold mayP; rw [if_pos hd2, hVv.pp.2]; refine ⟨hm.1, ?_⟩; have := hm.2; by_cases h0 : dd = 0; (rw [if_pos h0]; rw [if_pos (by rw [h0]; rfl)] at this; exact this); (rw [if_neg h0]; rw [if_neg (fun z => h0 (by rw [iN_lit, iN_eq (by omega) (by omega)] at z; exact z))] at this; exact this)
          obtain ⟨T9, t9, hV9, _⟩ := hVv.doK hd5 hm2
          refine z_istore G dX10_isShown_106 (Nat.le_of_ble_eq_true rfl) rfl ?_
          refine z_iload G dX10_isShown_108 rfl ?_
          refine z_if_eq G 131 dX10_isShown_110 (by decide) (fun c => absurd c (by decide)) (fun _ => ?_)
          refine z_iload G dX10_isShown_113 rfl ?_
          refine z_iconst G (v := 2) dX10_isShown_115 (by decide) ?_
          refine z_icmp_ge G 131 dX10_isShown_116 (by decide) (fun c => absurd c (by rw [iN_lit, iN_le (by omega) (by omega)]; omega)) (fun _ => ?_)
          refine z_aload_n G dX10_isShown_119 rfl ?_
          refine z_getR G fl_X10_31 rfl dX10_isShown_120 (by assumption) (by assumption) ?_
          refine z_iload G dX10_isShown_123 rfl ?_
          refine z_S G lk_X10_196 dX10_isShown_125 [_, _] rfl rfl rfl (Nat.le_of_ble_eq_true rfl) ⟨Nat.le_refl _, Nat.le_refl _⟩ ?_
          refine k_X10_goes s8 (t := t) (by rw [va_ne' (show m + 8 ≠ m + 14 by omega)]; exact hN.1) hN.2.1 ?_
          rw [va_ne' (show m + 8 ≠ m + 14 by omega)]
          refine z_goto G 147 dX10_isShown_128 (by decide) ?_
          refine z_iinc G (v := 1) dX10_isShown_147 (by decide) rfl rfl ?_
          refine z_goto G 43 dX10_isShown_150 (by decide) ?_
          refine ih (k + 1) _ _ _ _ (doP (J (m + 8)) dd) T9 t9 c (by simp (disch := omega) only [iN_lit, iN_add, iN_sub, iN_mul, iN_an, iN_of hu]; exact iN_ti2 (by omega) (by omega)) (by omega) (fun h => by rw [iN_divL (by omega), hu5 h]) (fun q a b => by rw [va_ne' a, va_ne' b]; exact hJ q a b) (fun i hi => ?_) ?_ hV9 ?_ (fun i hi => ?_)
          · rw [va_at' rfl, ← hVv.doG hd2, hVv.doHi hd5 hm2 i hi]; exact hh i hi
          · rw [va_at' rfl, ← hVv.doG hd2]
          · rw [hok2]; exact ⟨fun z => z.2, fun z => ⟨hm2, z⟩⟩
          · rw [va_ne' (show m + 14 ≠ m + 8 by omega), va_at' rfl]
            by_cases e : i = k
            · subst e; rw [va_at' rfl, hdg]
            · rw [va_ne' e]; exact hli i (by omega)
        · intro hm
          refine z_goto G 106 dX10_isShown_92 (by decide) ?_
          rw [va_ne' (show m + 8 ≠ m + 14 by omega)] at hm
          have hm2 : ¬ mayP (J (m + 8)) dd := fun z => hm (by unfold mayP at z; rw [if_pos hd2, hVv.pp.2] at z; refine ⟨z.1, ?_⟩; have := z.2; by_cases h0 : dd = 0; (rw [if_pos h0] at this; rw [if_pos (by rw [h0]; rfl)]; exact this); (rw [if_neg h0] at this; rw [if_neg (fun z => h0 (by rw [iN_lit, iN_eq (by omega) (by omega)] at z; exact z))]; exact this))
          refine z_istore G dX10_isShown_106 (Nat.le_of_ble_eq_true rfl) rfl ?_
          refine z_iload G dX10_isShown_108 rfl ?_
          refine z_if_eq G 131 dX10_isShown_110 (by decide) (fun _ => ?_) (fun c => absurd c (by decide))
          refine z_iload G dX10_isShown_131 rfl ?_
          refine z_if_eq G 147 dX10_isShown_133 (by decide) (fun _ => ?_) (fun c => absurd c (by decide))
          refine z_iinc G (v := 1) dX10_isShown_147 (by decide) rfl rfl ?_
          refine z_goto G 43 dX10_isShown_150 (by decide) ?_
          exact fail _ k _ _ _ (fun q a b => by rw [va_ne' b]; exact hJ q a b) (fun i hi => by rw [va_ne' (show m + 8 ≠ m + 14 by omega)]; exact hh i hi) (fun z => hm2 (hok2.mp z).1)
  have unit : ∀ (r k : Nat) (u : Int32) (J : pmI), u.toInt = (k : Int) → 1 ≤ k → k + r = max 1 L → Fr8 I J m → J (m + 8) = (va_cpy w old 0 0 124) → pmZ E C 19 [some (rr E m), some (.int (iN pg)), some (.int (iN code)), some (.int (iN L)), some (.int (iN (5 ^ (k - 1)))), some (.int u), none, none] [] S J P 0 0 := by
    intro r
    induction r with
    | zero =>
      intro k u J hu hk hr hJ hJv
      refine z_iload G dX10_isShown_19 rfl ?_
      refine z_iload_n G dX10_isShown_21 rfl ?_
      refine z_icmp_ge G 37 dX10_isShown_22 (by decide) (fun _ => ?_) (fun c => absurd c (fun z => z (by simp (disch := omega) only [iN_lit, iN_add, iN_sub, iN_mul, iN_an, iN_le, iN_lt, iN_eq, iN_of hu] <;> omega)))
      refine z_iconst G (v := 1) dX10_isShown_37 (by decide) ?_
      refine z_istore G dX10_isShown_38 (Nat.le_of_ble_eq_true rfl) rfl ?_
      refine z_iconst G (v := 0) dX10_isShown_40 (by decide) ?_
      refine z_istore G dX10_isShown_41 (Nat.le_of_ble_eq_true rfl) rfl ?_
      exact loop L 0 0 _ _ J (va_cpy w old 0 0 124) _ _ _ rfl (by omega) (fun h => by rw [show k = L by omega]) hJ (fun i hi => by rw [hJv, cpy_off (by omega)]) hJv hV.cpy Iff.rfl (fun i hi => absurd hi (by omega))
    | succ r ih =>
      intro k u J hu hk hr hJ hJv
      refine z_iload G dX10_isShown_19 rfl ?_
      refine z_iload_n G dX10_isShown_21 rfl ?_
      refine z_icmp_ge G 37 dX10_isShown_22 (by decide) (fun c => absurd c (by simp (disch := omega) only [iN_lit, iN_add, iN_sub, iN_mul, iN_an, iN_le, iN_lt, iN_eq, iN_of hu]; omega)) (fun _ => ?_)
      refine z_iload G dX10_isShown_25 rfl ?_
      refine z_iconst G (v := 5) dX10_isShown_27 (by decide) ?_
      refine z_imul G dX10_isShown_28 ?_
      refine z_istore G dX10_isShown_29 (Nat.le_of_ble_eq_true rfl) rfl ?_
      refine z_iinc G (v := 1) dX10_isShown_31 (by decide) rfl rfl ?_
      refine z_goto G 19 dX10_isShown_34 (by decide) ?_
      refine z_eq rfl ?_ rfl rfl rfl (ih (k + 1) (u + 1) J (by simp (disch := omega) only [iN_lit, iN_add, iN_sub, iN_mul, iN_an, iN_of hu]; exact iN_ti2 (by omega) (by omega)) (by omega) (by omega) hJ hJv)
      show [_, _, _, _, some (Value.int (iN (5 ^ (k - 1)) * 5)), some (Value.int (u + 1)), _, _] = _
      rw [iN_lit, iN_mul, show k + 1 - 1 = k - 1 + 1 by omega, Nat.pow_succ]
  refine z_aload_n G dX10_isShown_0 rfl ?_
  refine z_getR G fl_X10_25 rfl dX10_isShown_1 (by assumption) (by assumption) ?_
  refine z_iconst G (v := 0) dX10_isShown_4 (by decide) ?_
  refine z_aload_n G dX10_isShown_5 rfl ?_
  refine z_getR G fl_X10_31 rfl dX10_isShown_6 (by assumption) (by assumption) ?_
  refine z_iconst G (v := 0) dX10_isShown_9 (by decide) ?_
  refine z_S G lk_X10_146 dX10_isShown_10 [_, _, _, _] rfl rfl rfl (Nat.le_of_ble_eq_true rfl) ⟨Nat.le_refl _, Nat.le_refl _⟩ ?_
  refine k_X10_copies s6 s8 (by omega) (f := 0) (g := 0) rfl rfl (by omega) (by omega) ⟨by omega, by omega⟩ ?_
  rw [hw, cpy_hi hold]
  refine z_iconst G (v := 1) dX10_isShown_13 (by decide) ?_
  refine z_istore G dX10_isShown_14 (Nat.le_of_ble_eq_true rfl) rfl ?_
  refine z_iconst G (v := 1) dX10_isShown_16 (by decide) ?_
  refine z_istore G dX10_isShown_17 (Nat.le_of_ble_eq_true rfl) rfl ?_
  exact unit (max 1 L - 1) 1 1 _ rfl (by omega) (by omega) (fun q a b => va_ne' a) (va_at' rfl)
set_option maxHeartbeats 1000000 in
set_option maxRecDepth 20000 in
theorem k_X10_to {E : pmE} {d : Nat} {S : pmS} {I : pmI} {P : pmP} {R : Option Value → pmS → pmI → pmP → Prop} {m : Nat} (hM : MG S P m) {n T t c : Nat} {w : Nat → Int32} (hw : I (m + 6) = w) (hV : Vd w n T t c) {old : Nat → Int32} (hold : ∀ i, 124 ≤ i → I (m + 8) i = old i) {page k : Int32} (hb : (¬ ∃ q : Nat, page.toInt = (q : Int) ∧ q < n ∧ -1 ≤ k.toInt) → R (some (.int (-1000001))) S I P) (h : ∀ (J : pmI) (pg : Nat), Fr8 I J m → (∀ i, 124 ≤ i → J (m + 8) i = old i) → page.toInt = (pg : Int) → pg < n → R (some (.int (toV (toS (va_cpy w old 0 0 124) pg) k))) S J P) : pmX E (d + 5) 0 0 yX10_to [rr E m, .int page, .int k] S I P R := by
  refine pm_of (by decide) cd_X10_to (by decide) (by decide) (Nat.le_of_ble_eq_true rfl) ?_
  intro C G hq
  obtain ⟨g0, ⟨r0, r1, r2, r3, r4, r5, r6, r7, r8, r9, r10, r11, r12, r13, r14⟩, ⟨s1, s2, s3, s4, s5, s6, s7, s8, s9, s10, s11, s12, s13, s14, s15⟩⟩ := id hM
  obtain ⟨v1, v2, v3, v4, v5, v6, v7, v8⟩ := id hV
  have outer : ∀ (pg : Nat), page.toInt = (pg : Int) → pg < n → -1 ≤ k.toInt → ∀ (r L : Nat) (u : Int32) (x5 : Option Value) (J : pmI), u.toInt = (L : Int) → L + r = 5 → Fr8 I J m → (∀ i, 124 ≤ i → J (m + 8) i = old i) → (∀ l, l < L → ∀ c, c < 5 ^ l → ¬ okS pg (va_cpy w old 0 0 124) (dgs l c)) → pmZ E C 21 [some (rr E m), some (.int page), some (.int k), some (.int (iN (5 ^ L))), some (.int u), x5] [] S J P 0 0 := by
    intro pg hq1 hq2 hk1 r
    induction r with
    | zero =>
      intro L u x5 J hu hr hJ hh hno
      obtain rfl : L = 5 := by omega
      refine z_iload G dX10_to_21 rfl ?_
      refine z_iconst G (v := 5) dX10_to_23 (by decide) ?_
      refine z_icmp_ge G 92 dX10_to_24 (by decide) (fun _ => ?_) (fun c => absurd c (fun z => z (by simp (disch := omega) only [iN_lit, iN_add, iN_sub, iN_mul, iN_an, iN_le, iN_lt, iN_eq, iN_of hu] <;> omega)))
      refine z_ldc G ct_X10_56 dX10_to_92 ?_
      exact z_iret G hq dX10_to_94 (by have := h J pg hJ hh hq1 hq2; rw [toS_miss hno] at this; exact this)
    | succ r ih =>
      intro L u x5 J hu hr hJ hh hno
      obtain rfl := iN_of hu
      have hL4 : L ≤ 4 := by omega
      have hp5 := pow5_le hL4
      have inner : ∀ (r2 code : Nat) (u5 : Int32) (J : pmI), u5.toInt = (code : Int) → code + r2 = 5 ^ L → Fr8 I J m → (∀ i, 124 ≤ i → J (m + 8) i = old i) → (∀ c, c < code → ¬ okS pg (va_cpy w old 0 0 124) (dgs L c)) → pmZ E C 30 [some (rr E m), some (.int page), some (.int k), some (.int (iN (5 ^ L))), some (.int (iN L)), some (.int u5)] [] S J P 0 0 := by
        intro r2
        induction r2 with
        | zero =>
          intro code u5 J hu5 hr2 hJ hh hno2
          obtain rfl : code = 5 ^ L := by omega
          refine z_iload G dX10_to_30 rfl ?_
          refine z_iload_n G dX10_to_32 rfl ?_
          refine z_icmp_ge G 82 dX10_to_33 (by decide) (fun _ => ?_) (fun c => absurd c (fun z => z (by simp (disch := omega) only [iN_lit, iN_add, iN_sub, iN_mul, iN_an, iN_le, iN_lt, iN_eq, iN_of hu5] <;> omega)))
          refine z_iload_n G dX10_to_82 rfl ?_
          refine z_iconst G (v := 5) dX10_to_83 (by decide) ?_
          refine z_imul G dX10_to_84 ?_
          refine z_istore_n G dX10_to_85 (Nat.le_of_ble_eq_true rfl) rfl ?_
          refine z_iinc G (v := 1) dX10_to_86 (by decide) rfl rfl ?_
          refine z_goto G 21 dX10_to_89 (by decide) ?_
          refine z_eq rfl ?_ rfl rfl rfl (ih (L + 1) (iN L + 1) (some (.int u5)) J (by simp (disch := omega) only [iN_lit, iN_add, iN_sub, iN_mul, iN_an]; exact iN_ti2 (by omega) (by omega)) (by omega) hJ hh (fun l hl c hc => ?_))
          · show [_, _, _, some (Value.int (iN (5 ^ L) * 5)), some (Value.int (iN L + 1)), _] = _
            rw [iN_lit, iN_mul, Nat.pow_succ]
          · by_cases e : l = L
            · subst e; exact hno2 c hc
            · exact hno l (by omega) c hc
        | succ r2 ih2 =>
          intro code u5 J hu5 hr2 hJ hh hno2
          obtain rfl := iN_of hu5
          refine z_iload G dX10_to_30 rfl ?_
          refine z_iload_n G dX10_to_32 rfl ?_
          refine z_icmp_ge G 82 dX10_to_33 (by decide) (fun c => absurd c (by simp (disch := omega) only [iN_lit, iN_add, iN_sub, iN_mul, iN_an, iN_le, iN_lt, iN_eq]; omega)) (fun _ => ?_)
          refine z_aload_n G dX10_to_36 rfl ?_
          refine z_iload_n G dX10_to_37 rfl ?_
          refine z_iload G dX10_to_38 rfl ?_
          refine z_iload G dX10_to_40 rfl ?_
          rw [iN_of hq1]
          refine z_V G lk_X10_217 dX10_to_42 [_, _, _] rfl rfl rfl (Nat.le_of_ble_eq_true rfl) ⟨Nat.le_refl _, Nat.le_refl _⟩ (by assumption) ?_
          refine k_X10_isShown hM (by rw [hJ (m + 6) (by omega) (by omega)]; exact hw) hV hh (by omega) hL4 (by omega) ?_ ?_
          · intro hyes J2 hJ2 hh2 hl2
            refine z_if_eq G 76 dX10_to_45 (by decide) (fun c => absurd c (by decide)) (fun _ => ?_)
            refine z_iload_n G dX10_to_48 rfl ?_
            refine z_iconst G (v := -1) dX10_to_49 (by decide) ?_
            refine z_icmp_ne G 58 dX10_to_50 (by decide) (fun b50 => ?_) (fun b50 => ?_)
            · have hk0 : 0 ≤ k.toInt := by have h9 : ¬ k.toInt = -1 := fun z => b50 (by rw [ti_eq]; exact z); omega
              refine z_iload_n G dX10_to_58 rfl ?_
              refine z_iload G dX10_to_59 rfl ?_
              refine z_icmp_ge G 73 dX10_to_61 (by decide) (fun b61 => ?_) (fun b61 => ?_)
              · refine z_ldc G ct_X10_56 dX10_to_73 ?_
                exact z_iret G hq dX10_to_75 (by have := h J2 pg (fun q a b => (hJ2 q a b).trans (hJ q a b)) hh2 hq1 hq2; rw [toS_hit hL4 hno hno2 (by omega) hyes] at this; simp only [toV, dgs_len] at this; rw [if_neg b50, if_neg (by simp only [ti_lt, ti_le] at *; omega)] at this; exact this)
              · refine z_aload_n G dX10_to_64 rfl ?_
                refine z_getR G fl_X10_50 rfl dX10_to_65 (by assumption) (by assumption) ?_
                refine z_iload_n G dX10_to_68 rfl ?_
                have hlt : tn k < L := by simp only [ti_le, iN_ti (show L < 2147483648 by omega)] at b61; unfold tn; omega
                refine z_iald G (tn k) dX10_to_69 (by assumption) (tn_of hk0) (by omega) ?_
                refine z_goto G 75 dX10_to_70 (by decide) ?_
                exact z_iret G hq dX10_to_75 (by rw [hl2 _ hlt]; have := h J2 pg (fun q a b => (hJ2 q a b).trans (hJ q a b)) hh2 hq1 hq2; rw [toS_hit hL4 hno hno2 (by omega) hyes] at this; simp only [toV, dgs_len] at this; rw [if_neg b50, if_pos (by simp only [ti_lt, ti_le] at *; omega)] at this; exact this)
            · refine z_iload G dX10_to_53 rfl ?_
              refine z_goto G 75 dX10_to_55 (by decide) ?_
              exact z_iret G hq dX10_to_75 (by have := h J2 pg (fun q a b => (hJ2 q a b).trans (hJ q a b)) hh2 hq1 hq2; rw [toS_hit hL4 hno hno2 (by omega) hyes] at this; simp only [toV, dgs_len] at this; rw [if_pos b50] at this; exact this)
          · intro hyes J2 hJ2 hh2
            refine z_if_eq G 76 dX10_to_45 (by decide) (fun _ => ?_) (fun c => absurd c (by decide))
            refine z_iinc G (v := 1) dX10_to_76 (by decide) rfl rfl ?_
            refine z_goto G 30 dX10_to_79 (by decide) ?_
            refine z_eq rfl ?_ rfl rfl rfl (ih2 (code + 1) (iN code + 1) J2 (by simp (disch := omega) only [iN_lit, iN_add, iN_sub, iN_mul, iN_an]; exact iN_ti2 (by omega) (by omega)) (by omega) (fun q a b => (hJ2 q a b).trans (hJ q a b)) hh2 (fun c hc => ?_))
            · rw [← iN_of hq1]; rfl
            · by_cases e : c = code
              · subst e; exact hyes
              · exact hno2 c (by omega)
      refine z_iload G dX10_to_21 rfl ?_
      refine z_iconst G (v := 5) dX10_to_23 (by decide) ?_
      refine z_icmp_ge G 92 dX10_to_24 (by decide) (fun c => absurd c (by simp (disch := omega) only [iN_lit, iN_add, iN_sub, iN_mul, iN_an, iN_le, iN_lt, iN_eq]; omega)) (fun _ => ?_)
      refine z_iconst G (v := 0) dX10_to_27 (by decide) ?_
      refine z_istore G dX10_to_28 (Nat.le_of_ble_eq_true rfl) rfl ?_
      exact inner (5 ^ L) 0 0 J rfl (by omega) hJ hh (fun c hc => absurd hc (by omega))
  refine z_aload_n G dX10_to_0 rfl ?_
  refine z_iload_n G dX10_to_1 rfl ?_
  refine z_V G lk_X10_205 dX10_to_2 [_] rfl rfl rfl (Nat.le_of_ble_eq_true rfl) ⟨Nat.le_refl _, Nat.le_refl _⟩ (by assumption) ?_
  refine k_X10_isPage hM (by rw [hw]; exact v1.1) v1.2.2 ?_ ?_
  · intro q hq1 hq2
    refine z_if_eq G 13 dX10_to_5 (by decide) (fun c => absurd c (by decide)) (fun _ => ?_)
    refine z_iload_n G dX10_to_8 rfl ?_
    refine z_iconst G (v := -1) dX10_to_9 (by decide) ?_
    refine z_icmp_ge G 16 dX10_to_10 (by decide) (fun b10 => ?_) (fun b10 => ?_)
    · refine z_iconst G (v := 1) dX10_to_16 (by decide) ?_
      refine z_istore_n G dX10_to_17 (Nat.le_of_ble_eq_true rfl) rfl ?_
      refine z_iconst G (v := 0) dX10_to_18 (by decide) ?_
      refine z_istore G dX10_to_19 (Nat.le_of_ble_eq_true rfl) rfl ?_
      exact outer q hq1 hq2 (by rw [ti_le] at b10; exact b10) 5 0 0 _ I rfl rfl (fun _ _ _ => rfl) hold (fun l hl => absurd hl (by omega))
    · refine z_ldc G ct_X10_70 dX10_to_13 ?_
      exact z_iret G hq dX10_to_15 (hb (fun ⟨q, _, _, q1⟩ => b10 (by rw [ti_le]; exact q1)))
  · intro hno
    refine z_if_eq G 13 dX10_to_5 (by decide) (fun _ => ?_) (fun c => absurd c (by decide))
    refine z_ldc G ct_X10_70 dX10_to_13 ?_
    exact z_iret G hq dX10_to_15 (hb (fun ⟨q, q1, q2, _⟩ => hno ⟨q, q1, q2⟩))
