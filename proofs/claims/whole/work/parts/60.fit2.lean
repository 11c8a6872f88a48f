set_option maxHeartbeats 1000000 in
set_option maxRecDepth 20000 in
theorem k_X9_fits {E : pmE} {d : Nat} {S : pmS} {I : pmI} {P : pmP} {R : Option Value → pmS → pmI → pmP → Prop} (hX : XG S P) {n T t c : Nat} {w : Nat → Int32} (hD : DR I P 30 w T c) (hV : Vd w n T t c) (hW : WR I 27 w n) (hth : ∀ k, k < 8 → I (596 + 2 * k) 1 = 0 ∨ I (596 + 2 * k) 1 = 1) (hsz : ∀ k, k < 8 → ∃ z : Nat, (I (596 + 2 * k) 3).toInt = (z : Int) ∧ z ≤ 40) {page row i nn what : Int32} (hb : (¬ ∃ q r K e : Nat, page.toInt = (q : Int) ∧ q < n ∧ row.toInt = (r : Int) ∧ r < 8 ∧ nn.toInt = (K : Int) ∧ 1 ≤ K ∧ K ≤ 12 ∧ what.toInt = (e : Int) ∧ e ≤ 3) → R (some (.int (-1000001))) S I P) (hm : ∀ q r K : Nat, page.toInt = (q : Int) → q < n → row.toInt = (r : Int) → r < 8 → nn.toInt = (K : Int) → 1 ≤ K → K ≤ 12 → what.toInt ≤ 3 → 0 ≤ what.toInt → I (596 + 2 * r) 1 = 0 → R (some (.int (-1000010 - 1))) S (va_up I 0 (va_up (I 0) 8 1)) P) (hp : ∀ q r K : Nat, page.toInt = (q : Int) → q < n → row.toInt = (r : Int) → r < 8 → nn.toInt = (K : Int) → 1 ≤ K → K ≤ 12 → what.toInt ≤ 3 → 0 ≤ what.toInt → ∀ z : Nat, I (596 + 2 * r) 1 = 1 → (I (596 + 2 * r) 3).toInt = (z : Int) → z ≤ 40 → ¬ PL i nn z → R (some (.int (-1000010 - 2))) S (va_up I 0 (va_up (I 0) 8 2)) P) (hok : ∀ q r K : Nat, page.toInt = (q : Int) → q < n → row.toInt = (r : Int) → r < 8 → nn.toInt = (K : Int) → 1 ≤ K → K ≤ 12 → what.toInt ≤ 3 → 0 ≤ what.toInt → ∀ (z i0 s p : Nat) (J : pmI), I (596 + 2 * r) 1 = 1 → (I (596 + 2 * r) 3).toInt = (z : Int) → z ≤ 40 → i.toInt = (i0 : Int) → i0 + K ≤ z → Nw w t s p → (FrFit I J ∧ J 0 = va_up (I 0) 8 0) → R (some (.int (fitI w n t s q K what (fun k => I (597 + 2 * r) (i0 + k))))) S J P) : pmX E (d + 6) 0 0 yX9_fits [rr E 0, .int page, .int row, .int i, .int nn, .int what] S I P R := by
  refine pm_of (by decide) cd_X9_fits (by decide) (by decide) (Nat.le_of_ble_eq_true rfl) ?_
  intro C G hq
  obtain ⟨⟨a0, a1, a2, a3, a4, a5, a6, a7, a8⟩, hRG, hRdG, hWG, hDG, ⟨z1, z2, z3, z4⟩, hIG, hFG, hAG⟩ := id hX
  obtain ⟨rg1, rg2⟩ := id hRG
  have RGk : ∀ k, k < 8 → RowG S P (596 + 2 * k) := fun k hk => by obtain ⟨q1, q2, q3, q4⟩ := rg2 k hk; exact ⟨q2, by rw [show 596 + 2 * k + 1 = 597 + 2 * k by omega]; exact q3, by rw [show 596 + 2 * k + 1 = 597 + 2 * k by omega]; exact q4⟩
  obtain ⟨v1, v2, v3, v4, v5, v6, v7, v8⟩ := id hV
  obtain ⟨f1, ⟨f2, f3, f4, f5, f6, f7, f8, f9⟩, f10, f11, f12, f13, f14, f15, f16, f17, f18⟩ := id hFG
  obtain ⟨s, p, hN, hpn⟩ := hV.nw
  refine z_aload_n G dX9_fits_0 rfl ?_
  refine z_getR G fl_X9_25 rfl dX9_fits_1 (by assumption) (by assumption) ?_
  refine z_iload_n G dX9_fits_4 rfl ?_
  refine z_V G lk_X9_179 dX9_fits_5 [_] rfl rfl rfl (Nat.le_of_ble_eq_true rfl) ⟨Nat.le_refl _, Nat.le_refl _⟩ hWG.1 ?_
  refine k_X8_hasPage hWG.1 (by rw [hW.1]; exact v1.1) ?_ ?_
  · intro q hq1 hq2
    refine z_if_eq G 42 dX9_fits_8 (by decide) (fun c => absurd c (by decide)) (fun _ => ?_)
    refine z_iload_n G dX9_fits_11 rfl ?_
    refine z_S G lk_X9_69 dX9_fits_12 [_] rfl rfl rfl (Nat.le_of_ble_eq_true rfl) ⟨Nat.le_refl _, Nat.le_refl _⟩ ?_
    refine k_X9_isRow ?_ ?_
    · intro r hr1 hr8
      refine z_if_eq G 42 dX9_fits_15 (by decide) (fun c => absurd c (by decide)) (fun _ => ?_)
      refine z_iload G dX9_fits_18 rfl ?_
      refine z_iconst G (v := 1) dX9_fits_20 (by decide) ?_
      refine z_icmp_lt G 42 dX9_fits_21 (by decide) (fun b21 => ?_) (fun b21 => ?_)
      · refine z_ldc G ct_X9_73 dX9_fits_42 ?_
        exact z_iret G hq dX9_fits_44 (hb (fun ⟨q, r, K, e, _, _, _, _, q1, q2, q3, q4, q5⟩ => by simp only [ti_lt, ti_le, Int32.reduceToInt] at *; omega))
      · refine z_iload G dX9_fits_24 rfl ?_
        refine z_bipush G (v := 12) dX9_fits_26 (by decide) ?_
        refine z_icmp_gt G 42 dX9_fits_28 (by decide) (fun b28 => ?_) (fun b28 => ?_)
        · refine z_ldc G ct_X9_73 dX9_fits_42 ?_
          exact z_iret G hq dX9_fits_44 (hb (fun ⟨q, r, K, e, _, _, _, _, q1, q2, q3, q4, q5⟩ => by simp only [ti_lt, ti_le, Int32.reduceToInt] at *; omega))
        · refine z_iload G dX9_fits_31 rfl ?_
          refine z_if_lt G 42 dX9_fits_33 (by decide) (fun b33 => ?_) (fun b33 => ?_)
          · refine z_ldc G ct_X9_73 dX9_fits_42 ?_
            exact z_iret G hq dX9_fits_44 (hb (fun ⟨q, r, K, e, _, _, _, _, q1, q2, q3, q4, q5⟩ => by simp only [ti_lt, ti_le, Int32.reduceToInt] at *; omega))
          · refine z_iload G dX9_fits_36 rfl ?_
            refine z_iconst G (v := 3) dX9_fits_38 (by decide) ?_
            refine z_icmp_le G 45 dX9_fits_39 (by decide) (fun b39 => ?_) (fun b39 => ?_)
            · obtain ⟨K, hK1, hK2, hK3⟩ : ∃ k : Nat, nn.toInt = (k : Int) ∧ 1 ≤ k ∧ k ≤ 12 := ⟨nn.toInt.toNat, by simp only [ti_lt, ti_le, Int32.reduceToInt] at *; omega, by simp only [ti_lt, ti_le, Int32.reduceToInt] at *; omega, by simp only [ti_lt, ti_le, Int32.reduceToInt] at *; omega⟩
              have hwh3 : what.toInt ≤ 3 := by simp only [ti_lt, ti_le, Int32.reduceToInt] at *; omega
              have hwh0 : 0 ≤ what.toInt := by simp only [ti_lt, ti_le, Int32.reduceToInt] at *; omega
              refine z_aload_n G dX9_fits_45 rfl ?_
              refine z_getR G fl_X9_11 rfl dX9_fits_46 (by assumption) (by assumption) ?_
              refine z_iload_n G dX9_fits_49 rfl ?_
              refine z_aald G 4 (r) rfl (by decide) dX9_fits_50 rg1 (hr1) (by omega) (rg2 r (by omega)).1 ?_
              refine z_astore G dX9_fits_51 (Nat.le_of_ble_eq_true rfl) rfl ?_
              refine z_aload G dX9_fits_53 rfl ?_
              refine z_getI G fl_X9_82 rfl dX9_fits_55 (RGk r hr8).1 ?_
              refine z_if_ne G 67 dX9_fits_58 (by decide) (fun b58 => ?_) (fun b58 => ?_)
              · have ht : I (596 + 2 * r) 1 = 1 := (hth r hr8).resolve_left b58
                obtain ⟨z, hz1, hz2⟩ := hsz r hr8
                refine z_aload G dX9_fits_67 rfl ?_
                refine z_iload_n G dX9_fits_69 rfl ?_
                refine z_iload G dX9_fits_70 rfl ?_
                refine z_V G lk_X9_86 dX9_fits_72 [_, _] rfl rfl rfl (Nat.le_of_ble_eq_true rfl) ⟨Nat.le_refl _, Nat.le_refl _⟩ (RGk r hr8).1 ?_
                refine k_X6_hasPlaces (RGk r hr8).1 hz1 hz2 ?_ ?_
                · intro hpl
                  refine z_if_ne G 84 dX9_fits_75 (by decide) (fun _ => ?_) (fun c => absurd c (by decide))
                  obtain ⟨i0, hi1⟩ : ∃ i0 : Nat, i.toInt = (i0 : Int) := ⟨i.toInt.toNat, by have := hpl.1; omega⟩
                  have hpl2 : i0 + K ≤ z := by have := hpl.2.2; omega
                  refine z_aload_n G dX9_fits_84 rfl ?_
                  refine z_iconst G (v := 0) dX9_fits_85 (by decide) ?_
                  refine z_putI G fl_X9_63 ft_9_8 rfl rfl rfl dX9_fits_86 (by assumption) ?_
                  refine z_aload_n G dX9_fits_89 rfl ?_
                  refine z_getR G fl_X9_52 rfl dX9_fits_90 (by assumption) (by assumption) ?_
                  refine z_aload G dX9_fits_93 rfl ?_
                  refine z_iload_n G dX9_fits_95 rfl ?_
                  refine z_iload G dX9_fits_96 rfl ?_
                  refine z_V G lk_X9_252 dX9_fits_98 [_, _, _] rfl rfl rfl (Nat.le_of_ble_eq_true rfl) ⟨Nat.le_refl _, Nat.le_refl _⟩ f1 ?_
                  refine k_X2_hear hFG (RGk r hr8) (by omega) (z := z) (by rw [va_ne' (by omega)]; exact hz1) hz2 hpl hK1 hK3 hi1 (fun J hJ hKJ htl9 => ?_)
                  have hDJ : DR J P 30 w T c := hD.congr hDG (by omega) (by omega) (fun _ _ _ => rfl) (fun q a b => by rw [hJ q (by omega) (by omega)]; exact va_ne' (by omega))
                  have hWJ : WR J 27 w n := hW.congr (fun q a b => by rw [hJ q (by omega) (by omega)]; exact va_ne' (by omega))
                  have htl : ∀ k, k < K → J 583 k = (fun k => I (597 + 2 * r) (i0 + k)) k := fun k hk => by rw [htl9 k hk, va_ne' (by omega), show 596 + 2 * r + 1 = 597 + 2 * r by omega]
                  refine z_iload G dX9_fits_101 rfl ?_
                  have hsw : (what.toInt < 0 ∨ 2 < what.toInt) ∨ what = 0 ∨ what = 1 ∨ what = 2 := by simp only [ti_eq, Int32.reduceToInt]; omega
                  rcases hsw with e | e | e | e
                  · refine z_tout G 177 dX9_fits_103 e (by decide) ?_
                    refine z_aload_n G dX9_fits_177 rfl ?_
                    refine z_getR G fl_X9_52 rfl dX9_fits_178 (by assumption) (by assumption) ?_
                    refine z_aload_n G dX9_fits_181 rfl ?_
                    refine z_getR G fl_X9_25 rfl dX9_fits_182 (by assumption) (by assumption) ?_
                    refine z_aload_n G dX9_fits_185 rfl ?_
                    refine z_getR G fl_X9_32 rfl dX9_fits_186 (by assumption) (by assumption) ?_
                    refine z_V G lk_X9_266 dX9_fits_189 [_, _] rfl rfl rfl (Nat.le_of_ble_eq_true rfl) ⟨Nat.le_refl _, Nat.le_refl _⟩ f1 ?_
                    refine k_X2_fittingHomes hFG hWG hDG hDJ hV hWJ hKJ (by omega) htl (fun J9 hJ9 => ?_)
                    exact z_iret G hq dX9_fits_192 (by have := hok q r K hq1 hq2 hr1 hr8 hK1 hK2 hK3 hwh3 hwh0 z i0 s p J9 ht hz1 hz2 hi1 hpl2 hN ⟨fun k a b c => (hJ9 k (by omega) (by omega)).trans ((hJ k (by omega) (by omega)).trans (va_ne' a)), (hJ9 0 (by omega) (by omega)).trans ((hJ 0 (by omega) (by omega)).trans (va_at' rfl))⟩; unfold fitI placeF at this; rw [if_neg (fun z => by rw [z] at e; revert e; decide), if_neg (fun z => by rw [z] at e; revert e; decide), if_neg (fun z => by rw [z] at e; revert e; decide), if_neg (fun z => by rw [z] at e; revert e; decide), if_neg (fun z => by rw [z] at e; revert e; decide)] at this; exact this)
                  · refine z_tin G 128 dX9_fits_103 (by rw [e]; decide) (by rw [e]; decide) (by rw [e]; rfl) (by decide) ?_
                    refine z_aload_n G dX9_fits_128 rfl ?_
                    refine z_getR G fl_X9_52 rfl dX9_fits_129 (by assumption) (by assumption) ?_
                    refine z_aload_n G dX9_fits_132 rfl ?_
                    refine z_getR G fl_X9_25 rfl dX9_fits_133 (by assumption) (by assumption) ?_
                    refine z_aload_n G dX9_fits_136 rfl ?_
                    refine z_getR G fl_X9_32 rfl dX9_fits_137 (by assumption) (by assumption) ?_
                    refine z_V G lk_X9_256 dX9_fits_140 [_, _] rfl rfl rfl (Nat.le_of_ble_eq_true rfl) ⟨Nat.le_refl _, Nat.le_refl _⟩ f1 ?_
                    refine k_X2_fittingKinds hFG hWG hDG hDJ hV hWJ hKJ (by omega) htl (fun J9 hJ9 => ?_)
                    exact z_iret G hq dX9_fits_143 (by have := hok q r K hq1 hq2 hr1 hr8 hK1 hK2 hK3 hwh3 hwh0 z i0 s p J9 ht hz1 hz2 hi1 hpl2 hN ⟨fun k a b c => (hJ9 k (by omega) (by omega)).trans ((hJ k (by omega) (by omega)).trans (va_ne' a)), (hJ9 0 (by omega) (by omega)).trans ((hJ 0 (by omega) (by omega)).trans (va_at' rfl))⟩; unfold fitI placeF at this; rw [if_pos e, if_pos e, if_pos e] at this; exact this)
                  · refine z_tin G 144 dX9_fits_103 (by rw [e]; decide) (by rw [e]; decide) (by rw [e]; rfl) (by decide) ?_
                    refine z_aload_n G dX9_fits_144 rfl ?_
                    refine z_getR G fl_X9_52 rfl dX9_fits_145 (by assumption) (by assumption) ?_
                    refine z_aload_n G dX9_fits_148 rfl ?_
                    refine z_getR G fl_X9_25 rfl dX9_fits_149 (by assumption) (by assumption) ?_
                    refine z_aload_n G dX9_fits_152 rfl ?_
                    refine z_getR G fl_X9_32 rfl dX9_fits_153 (by assumption) (by assumption) ?_
                    refine z_V G lk_X9_260 dX9_fits_156 [_, _] rfl rfl rfl (Nat.le_of_ble_eq_true rfl) ⟨Nat.le_refl _, Nat.le_refl _⟩ f1 ?_
                    refine k_X2_fittingStarts hFG hWG hDG hDJ hV hWJ hKJ (by omega) htl hN (fun J9 hJ9 => ?_)
                    exact z_iret G hq dX9_fits_159 (by have := hok q r K hq1 hq2 hr1 hr8 hK1 hK2 hK3 hwh3 hwh0 z i0 s p J9 ht hz1 hz2 hi1 hpl2 hN ⟨fun k a b c => (hJ9 k (by omega) (by omega)).trans ((hJ k (by omega) (by omega)).trans (va_ne' a)), (hJ9 0 (by omega) (by omega)).trans ((hJ 0 (by omega) (by omega)).trans (va_at' rfl))⟩; unfold fitI placeF at this; rw [if_neg (by rw [e]; decide), if_pos e, if_neg (by rw [e]; decide), if_neg (by rw [e]; decide)] at this; exact this)
                  · refine z_tin G 160 dX9_fits_103 (by rw [e]; decide) (by rw [e]; decide) (by rw [e]; rfl) (by decide) ?_
                    refine z_aload_n G dX9_fits_160 rfl ?_
                    refine z_getR G fl_X9_52 rfl dX9_fits_161 (by assumption) (by assumption) ?_
                    refine z_aload_n G dX9_fits_164 rfl ?_
                    refine z_getR G fl_X9_25 rfl dX9_fits_165 (by assumption) (by assumption) ?_
                    refine z_aload_n G dX9_fits_168 rfl ?_
                    refine z_getR G fl_X9_32 rfl dX9_fits_169 (by assumption) (by assumption) ?_
                    refine z_iload_n G dX9_fits_172 rfl ?_
                    refine z_V G lk_X9_263 dX9_fits_173 [_, _, _] rfl rfl rfl (Nat.le_of_ble_eq_true rfl) ⟨Nat.le_refl _, Nat.le_refl _⟩ f1 ?_
                    refine k_X2_fittingLeads hFG hWG hDG hDJ hV hWJ hKJ (by omega) htl hq1 hq2 (fun J9 hJ9 => ?_)
                    exact z_iret G hq dX9_fits_176 (by have := hok q r K hq1 hq2 hr1 hr8 hK1 hK2 hK3 hwh3 hwh0 z i0 s p J9 ht hz1 hz2 hi1 hpl2 hN ⟨fun k a b c => (hJ9 k (by omega)).trans ((hJ k (by omega) (by omega)).trans (va_ne' a)), (hJ9 0 (by omega)).trans ((hJ 0 (by omega) (by omega)).trans (va_at' rfl))⟩; unfold fitI placeF at this; rw [if_neg (by rw [e]; decide), if_neg (by rw [e]; decide), if_pos e, if_neg (by rw [e]; decide), if_neg (by rw [e]; decide)] at this; exact this)
                · intro hpl
                  refine z_if_ne G 84 dX9_fits_75 (by decide) (fun c => absurd c (by decide)) (fun _ => ?_)
                  refine z_aload_n G dX9_fits_78 rfl ?_
                  refine z_iconst G (v := 2) dX9_fits_79 (by decide) ?_
                  refine z_V G lk_X9_74 dX9_fits_80 [_] rfl rfl rfl (Nat.le_of_ble_eq_true rfl) ⟨Nat.le_refl _, Nat.le_refl _⟩ (by assumption) ?_
                  refine k_X9_found hX ?_
                  exact z_iret G hq dX9_fits_83 (hp q r K hq1 hq2 hr1 hr8 hK1 hK2 hK3 hwh3 hwh0 z ht hz1 hz2 hpl)
              · refine z_aload_n G dX9_fits_61 rfl ?_
                refine z_iconst G (v := 1) dX9_fits_62 (by decide) ?_
                refine z_V G lk_X9_74 dX9_fits_63 [_] rfl rfl rfl (Nat.le_of_ble_eq_true rfl) ⟨Nat.le_refl _, Nat.le_refl _⟩ (by assumption) ?_
                refine k_X9_found hX ?_
                exact z_iret G hq dX9_fits_66 (hm q r K hq1 hq2 hr1 hr8 hK1 hK2 hK3 hwh3 hwh0 b58)
            · refine z_ldc G ct_X9_73 dX9_fits_42 ?_
              exact z_iret G hq dX9_fits_44 (hb (fun ⟨q, r, K, e, _, _, _, _, q1, q2, q3, q4, q5⟩ => by simp only [ti_lt, ti_le, Int32.reduceToInt] at *; omega))
    · intro hno
      refine z_if_eq G 42 dX9_fits_15 (by decide) (fun _ => ?_) (fun c => absurd c (by decide))
      refine z_ldc G ct_X9_73 dX9_fits_42 ?_
      exact z_iret G hq dX9_fits_44 (hb (fun ⟨q, r, K, e, _, _, q1, q2, _⟩ => hno ⟨r, q1, q2⟩))
  · intro hno
    refine z_if_eq G 42 dX9_fits_8 (by decide) (fun _ => ?_) (fun c => absurd c (by decide))
    refine z_ldc G ct_X9_73 dX9_fits_42 ?_
    exact z_iret G hq dX9_fits_44 (hb (fun ⟨q, r, K, e, q1, q2, _⟩ => hno ⟨q, q1, q2⟩))
set_option maxHeartbeats 1000000 in
set_option maxRecDepth 20000 in
theorem k_X9_fits0 {E : pmE} {d : Nat} {S : pmS} {I : pmI} {P : pmP} {R : Option Value → pmS → pmI → pmP → Prop} (hX : XG S P) (hn : I 27 2 = 0) {page row i nn what : Int32} (h : R (some (.int (-1000001))) S I P) : pmX E (d + 3) 0 0 yX9_fits [rr E 0, .int page, .int row, .int i, .int nn, .int what] S I P R := by
  refine pm_of (by decide) cd_X9_fits (by decide) (by decide) (Nat.le_of_ble_eq_true rfl) ?_
  intro C G hq
  obtain ⟨⟨a0, a1, a2, a3, a4, a5, a6, a7, a8⟩, hRG, hRdG, hWG, hDG, ⟨z1, z2, z3, z4⟩, hIG, hFG, hAG⟩ := id hX
  refine z_aload_n G dX9_fits_0 rfl ?_
  refine z_getR G fl_X9_25 rfl dX9_fits_1 (by assumption) (by assumption) ?_
  refine z_iload_n G dX9_fits_4 rfl ?_
  refine z_V G lk_X9_179 dX9_fits_5 [_] rfl rfl rfl (Nat.le_of_ble_eq_true rfl) ⟨Nat.le_refl _, Nat.le_refl _⟩ hWG.1 ?_
  refine k_X8_hasPage hWG.1 (n := 0) (by rw [hn]; rfl) (fun p _ q => absurd q (by omega)) (fun _ => ?_)
  refine z_if_eq G 42 dX9_fits_8 (by decide) (fun _ => ?_) (fun c => absurd c (by decide))
  refine z_ldc G ct_X9_73 dX9_fits_42 ?_
  exact z_iret G hq dX9_fits_44 (h)
set_option maxHeartbeats 1000000 in
set_option maxRecDepth 20000 in
theorem k_X10_fits0 {E : pmE} {d : Nat} {S : pmS} {I : pmI} {P : pmP} {R : Option Value → pmS → pmI → pmP → Prop} {m : Nat} (hM : MG S P m) (hn : I (m + 6) 0 = 0) {page row i nn what : Int32} (h : R (some (.int (-1000001))) S I P) : pmX E (d + 3) 0 0 yX10_fits [rr E m, .int page, .int row, .int i, .int nn, .int what] S I P R := by
  refine pm_of (by decide) cd_X10_fits (by decide) (by decide) (Nat.le_of_ble_eq_true rfl) ?_
  intro C G hq
  obtain ⟨g0, ⟨r0, r1, r2, r3, r4, r5, r6, r7, r8, r9, r10, r11, r12, r13, r14⟩, ⟨s1, s2, s3, s4, s5, s6, s7, s8, s9, s10, s11, s12, s13, s14, s15⟩⟩ := id hM
  refine z_aload_n G dX10_fits_0 rfl ?_
  refine z_iload_n G dX10_fits_1 rfl ?_
  refine z_V G lk_X10_205 dX10_fits_2 [_] rfl rfl rfl (Nat.le_of_ble_eq_true rfl) ⟨Nat.le_refl _, Nat.le_refl _⟩ (by assumption) ?_
  refine k_X10_isPage hM (n := 0) (by rw [hn]; rfl) (by omega) (fun k _ q => absurd q (by omega)) (fun _ => ?_)
  refine z_if_eq G 36 dX10_fits_5 (by decide) (fun _ => ?_) (fun c => absurd c (by decide))
  refine z_ldc G ct_X10_70 dX10_fits_36 ?_
  exact z_iret G hq dX10_fits_38 (h)
set_option maxHeartbeats 1000000 in
set_option maxRecDepth 20000 in
theorem k_X9_to0 {E : pmE} {d : Nat} {S : pmS} {I : pmI} {P : pmP} {R : Option Value → pmS → pmI → pmP → Prop} (hX : XG S P) (hn : I 27 2 = 0) {page k : Int32} (h : R (some (.int (-1000001))) S I P) : pmX E (d + 3) 0 0 yX9_to [rr E 0, .int page, .int k] S I P R := by
  refine pm_of (by decide) cd_X9_to (by decide) (by decide) (Nat.le_of_ble_eq_true rfl) ?_
  intro C G hq
  obtain ⟨⟨a0, a1, a2, a3, a4, a5, a6, a7, a8⟩, hRG, hRdG, hWG, hDG, ⟨z1, z2, z3, z4⟩, hIG, hFG, hAG⟩ := id hX
  refine z_aload_n G dX9_to_0 rfl ?_
  refine z_getR G fl_X9_25 rfl dX9_to_1 (by assumption) (by assumption) ?_
  refine z_iload_n G dX9_to_4 rfl ?_
  refine z_V G lk_X9_179 dX9_to_5 [_] rfl rfl rfl (Nat.le_of_ble_eq_true rfl) ⟨Nat.le_refl _, Nat.le_refl _⟩ hWG.1 ?_
  refine k_X8_hasPage hWG.1 (n := 0) (by rw [hn]; rfl) (fun p _ q => absurd q (by omega)) (fun _ => ?_)
  refine z_if_eq G 16 dX9_to_8 (by decide) (fun _ => ?_) (fun c => absurd c (by decide))
  refine z_ldc G ct_X9_73 dX9_to_16 ?_
  exact z_iret G hq dX9_to_18 (h)
set_option maxHeartbeats 1000000 in
set_option maxRecDepth 20000 in
theorem k_X10_to0 {E : pmE} {d : Nat} {S : pmS} {I : pmI} {P : pmP} {R : Option Value → pmS → pmI → pmP → Prop} {m : Nat} (hM : MG S P m) (hn : I (m + 6) 0 = 0) {page k : Int32} (h : R (some (.int (-1000001))) S I P) : pmX E (d + 3) 0 0 yX10_to [rr E m, .int page, .int k] S I P R := by
  refine pm_of (by decide) cd_X10_to (by decide) (by decide) (Nat.le_of_ble_eq_true rfl) ?_
  intro C G hq
  obtain ⟨g0, ⟨r0, r1, r2, r3, r4, r5, r6, r7, r8, r9, r10, r11, r12, r13, r14⟩, ⟨s1, s2, s3, s4, s5, s6, s7, s8, s9, s10, s11, s12, s13, s14, s15⟩⟩ := id hM
  refine z_aload_n G dX10_to_0 rfl ?_
  refine z_iload_n G dX10_to_1 rfl ?_
  refine z_V G lk_X10_205 dX10_to_2 [_] rfl rfl rfl (Nat.le_of_ble_eq_true rfl) ⟨Nat.le_refl _, Nat.le_refl _⟩ (by assumption) ?_
  refine k_X10_isPage hM (n := 0) (by rw [hn]; rfl) (by omega) (fun k _ q => absurd q (by omega)) (fun _ => ?_)
  refine z_if_eq G 13 dX10_to_5 (by decide) (fun _ => ?_) (fun c => absurd c (by decide))
  refine z_ldc G ct_X10_70 dX10_to_13 ?_
  exact z_iret G hq dX10_to_15 (h)
set_option maxHeartbeats 1000000 in
set_option maxRecDepth 20000 in
theorem k_X9_drawn0 {E : pmE} {d : Nat} {S : pmS} {I : pmI} {P : pmP} {R : Option Value → pmS → pmI → pmP → Prop} (hX : XG S P) (hn : I 27 2 = 0) {nn seed what : Int32} (h : R (some (.int (-1000002))) S I P) : pmX E (d + 3) 0 0 yX9_drawn [rr E 0, .int nn, .int seed, .int what] S I P R := by
  refine pm_of (by decide) cd_X9_drawn (by decide) (by decide) (Nat.le_of_ble_eq_true rfl) ?_
  intro C G hq
  obtain ⟨⟨a0, a1, a2, a3, a4, a5, a6, a7, a8⟩, hRG, hRdG, hWG, hDG, ⟨z1, z2, z3, z4⟩, hIG, hFG, hAG⟩ := id hX
  refine z_aload_n G dX9_drawn_0 rfl ?_
  refine z_V G lk_X9_142 dX9_drawn_1 [] rfl rfl rfl (Nat.le_of_ble_eq_true rfl) ⟨Nat.le_refl _, Nat.le_refl _⟩ (by assumption) ?_
  refine k_X9_stands hX (n := 0) (by rw [hn]; rfl) (fun q => absurd q (by omega)) (fun _ => ?_)
  refine z_if_ne G 10 dX9_drawn_4 (by decide) (fun c => absurd c (by decide)) (fun _ => ?_)
  refine z_ldc G ct_X9_145 dX9_drawn_7 ?_
  exact z_iret G hq dX9_drawn_9 (h)
set_option maxHeartbeats 1000000 in
set_option maxRecDepth 20000 in
theorem k_X10_drawn0 {E : pmE} {d : Nat} {S : pmS} {I : pmI} {P : pmP} {R : Option Value → pmS → pmI → pmP → Prop} {m : Nat} (hM : MG S P m) (hn : I (m + 6) 0 = 0) {nn seed what : Int32} (h : R (some (.int (-1000002))) S I P) : pmX E (d + 3) 0 0 yX10_drawn [rr E m, .int nn, .int seed, .int what] S I P R := by
  refine pm_of (by decide) cd_X10_drawn (by decide) (by decide) (Nat.le_of_ble_eq_true rfl) ?_
  intro C G hq
  obtain ⟨g0, ⟨r0, r1, r2, r3, r4, r5, r6, r7, r8, r9, r10, r11, r12, r13, r14⟩, ⟨s1, s2, s3, s4, s5, s6, s7, s8, s9, s10, s11, s12, s13, s14, s15⟩⟩ := id hM
  refine z_aload_n G dX10_drawn_0 rfl ?_
  refine z_V G lk_X10_179 dX10_drawn_1 [] rfl rfl rfl (Nat.le_of_ble_eq_true rfl) ⟨Nat.le_refl _, Nat.le_refl _⟩ (by assumption) ?_
  refine k_X10_isWeb hM (n := 0) (by rw [hn]; rfl) (fun q => absurd q (by omega)) (fun _ => ?_)
  refine z_if_ne G 10 dX10_drawn_4 (by decide) (fun c => absurd c (by decide)) (fun _ => ?_)
  refine z_ldc G ct_X10_182 dX10_drawn_7 ?_
  exact z_iret G hq dX10_drawn_9 (h)
set_option maxHeartbeats 1000000 in
set_option maxRecDepth 20000 in
theorem k_X10_isSeen {E : pmE} {d : Nat} {S : pmS} {I : pmI} {P : pmP} {R : Option Value → pmS → pmI → pmP → Prop} {m : Nat} (hM : MG S P m) {w : Nat → Int32} (hw : I (m + 6) = w) {old : Nat → Int32} (hold : ∀ i, 124 ≤ i → I (m + 8) i = old i) {n T t c f0 K pl : Nat} {fr nn plc x : Int32} (hf0 : fr.toInt = (f0 : Int)) (hK : nn.toInt = (K : Int)) (hfK : f0 + K ≤ 320) (hpl : plc.toInt = (pl : Int)) (hpl2 : pl < 124) (hV : Vd (va_up (va_cpy w old 0 0 124) pl x) n T t c) (h1 : fitL (fun k => I (m + 3) (f0 + k)) K 0 (va_up (va_cpy w old 0 0 124) pl x) → ∀ J, (∀ k, k ≠ m + 8 → J k = I k) → (∀ i, 124 ≤ i → J (m + 8) i = old i) → R (some (.int 1)) S J P) (h0 : ¬ fitL (fun k => I (m + 3) (f0 + k)) K 0 (va_up (va_cpy w old 0 0 124) pl x) → ∀ J, (∀ k, k ≠ m + 8 → J k = I k) → (∀ i, 124 ≤ i → J (m + 8) i = old i) → R (some (.int 0)) S J P) : pmX E (d + 4) 0 0 yX10_isSeen [rr E m, .int fr, .int nn, .int plc, .int x] S I P R := by
  refine pm_of (by decide) cd_X10_isSeen (by decide) (by decide) (Nat.le_of_ble_eq_true rfl) ?_
  intro C G hq
  obtain ⟨g0, ⟨r0, r1, r2, r3, r4, r5, r6, r7, r8, r9, r10, r11, r12, r13, r14⟩, ⟨s1, s2, s3, s4, s5, s6, s7, s8, s9, s10, s11, s12, s13, s14, s15⟩⟩ := id hM
  have loop : ∀ (r k : Nat) (u b : Int32) (J : pmI) (T t c : Nat), u.toInt = (k : Int) → k + r = K → (∀ k, k ≠ m + 8 → J k = I k) → (∀ i, 124 ≤ i → J (m + 8) i = old i) → Vd (J (m + 8)) n T t c → ((b = 1 ∧ (fitL (fun k => I (m + 3) (f0 + k)) K 0 (va_up (va_cpy w old 0 0 124) pl x) ↔ fitL (fun k => I (m + 3) (f0 + k)) r k (J (m + 8)))) ∨ (b = 0 ∧ ¬ fitL (fun k => I (m + 3) (f0 + k)) K 0 (va_up (va_cpy w old 0 0 124) pl x))) → pmZ E C 27 [some (rr E m), some (.int fr), some (.int nn), some (.int plc), some (.int x), some (.int b), some (.int u)] [] S J P 0 0 := by
    intro r
    induction r with
    | zero =>
      intro k u b J T t c hu hr hJ hh hVv hb
      obtain rfl : k = K := by omega
      refine z_iload G dX10_isSeen_27 rfl ?_
      refine z_iload_n G dX10_isSeen_29 rfl ?_
      refine z_icmp_ge G 89 dX10_isSeen_30 (by decide) (fun _ => ?_) (fun c => absurd c (fun z => z (by simp (disch := omega) only [iN_lit, iN_add, iN_sub, iN_mul, iN_an, iN_le, iN_lt, iN_eq, iN_of hu, iN_of hK] <;> omega)))
      refine z_iload G dX10_isSeen_89 rfl ?_
      rcases hb with ⟨rfl, hb⟩ | ⟨rfl, hb⟩
      · exact z_zret G hq dX10_isSeen_91 rfl (h1 (hb.mpr trivial) J hJ hh)
      · exact z_zret G hq dX10_isSeen_91 rfl (h0 hb J hJ hh)
    | succ r ih =>
      intro k u b J T t c hu hr hJ hh hVv hb
      obtain ⟨s, p, hN, hpn⟩ := hVv.nw
      obtain ⟨cn, c1, c2, c3, c4⟩ := hVv.2.2.2.2.1 p hpn
      refine z_iload G dX10_isSeen_27 rfl ?_
      refine z_iload_n G dX10_isSeen_29 rfl ?_
      refine z_icmp_ge G 89 dX10_isSeen_30 (by decide) (fun c => absurd c (by simp (disch := omega) only [iN_lit, iN_add, iN_sub, iN_mul, iN_an, iN_le, iN_lt, iN_eq, iN_of hu, iN_of hK]; omega)) (fun _ => ?_)
      refine z_aload_n G dX10_isSeen_33 rfl ?_
      refine z_getR G fl_X10_31 rfl dX10_isSeen_34 (by assumption) (by assumption) ?_
      refine z_iconst G (v := 0) dX10_isSeen_37 (by decide) ?_
      refine z_S G lk_X10_183 dX10_isSeen_38 [_, _] rfl rfl rfl (Nat.le_of_ble_eq_true rfl) ⟨Nat.le_refl _, Nat.le_refl _⟩ ?_
      refine k_X10_mayFollow s8 (t := t) (s := s) (p := p) hN ?_ ?_
      · intro hm
        refine z_if_eq G 52 dX10_isSeen_41 (by decide) (fun c => absurd c (by decide)) (fun _ => ?_)
        have hm2 := (hVv.may2 hN c1).mpr hm
        have hm3 := (hVv.mayL hN c1 (Nat.le_refl 2)).mp hm2
        refine z_aload_n G dX10_isSeen_44 rfl ?_
        refine z_getR G fl_X10_31 rfl dX10_isSeen_45 (by assumption) (by assumption) ?_
        refine z_iconst G (v := 0) dX10_isSeen_48 (by decide) ?_
        refine z_S G lk_X10_190 dX10_isSeen_49 [_, _] rfl rfl rfl (Nat.le_of_ble_eq_true rfl) ⟨Nat.le_refl _, Nat.le_refl _⟩ ?_
        refine k_X10_follows s8 (n := n) (T := T) (t := t) (c := c) (s := s) (p := p) (cn := cn) (jn := 0) hVv hN hpn rfl c1 (by omega) hm3.2 ?_
        obtain ⟨J2, hJ2⟩ : ∃ J2, J2 = va_up J (m + 8) (stF (J (m + 8))) := ⟨_, rfl⟩
        refine z_I (I' := J2) (by rw [hJ2, stF_y hm2, hVv.doL hN (Nat.le_refl 2)]) ?_
        have hrow : J2 (m + 8) = stF (J (m + 8)) := by rw [hJ2, va_at' rfl]
        have hfr : ∀ k, k ≠ m + 8 → J2 k = J k := fun k a => by rw [hJ2, va_ne' a]
        obtain ⟨T9, t9, hV9⟩ := hVv.stK
        rw [← hrow] at hV9
        obtain ⟨s9, p9, hN9, hpn9⟩ := hV9.nw
        have hsee := hN9.see
        have hh2 : ∀ i, 124 ≤ i → J2 (m + 8) i = old i := fun i hi => by rw [hrow, hVv.stHi i hi]; exact hh i hi
        have hJ2f : ∀ k, k ≠ m + 8 → J2 k = I k := fun q a => (hfr q a).trans (hJ q a)
        refine z_iload G dX10_isSeen_52 rfl ?_
        refine z_if_eq G 80 dX10_isSeen_54 (by decide) (fun b54 => ?_) (fun b54 => ?_)
        · refine z_iconst G (v := 0) dX10_isSeen_80 (by decide) ?_
          refine z_istore G dX10_isSeen_81 (Nat.le_of_ble_eq_true rfl) rfl ?_
          refine z_iinc G (v := 1) dX10_isSeen_83 (by decide) rfl rfl ?_
          refine z_goto G 27 dX10_isSeen_86 (by decide) ?_
          exact ih (k + 1) _ 0 J2 T9 t9 c (by simp (disch := omega) only [iN_lit, iN_add, iN_sub, iN_mul, iN_an, iN_of hu]; exact iN_ti2 (by omega) (by omega)) (by omega) hJ2f hh2 hV9 (Or.inr ⟨rfl, hb.elim (fun z => by rw [z.1] at b54; exact absurd b54 (by decide)) (fun z => z.2)⟩)
        · refine z_aload_n G dX10_isSeen_57 rfl ?_
          refine z_getR G fl_X10_31 rfl dX10_isSeen_58 (by assumption) (by assumption) ?_
          refine z_S G lk_X10_157 dX10_isSeen_61 [_] rfl rfl rfl (Nat.le_of_ble_eq_true rfl) ⟨Nat.le_refl _, Nat.le_refl _⟩ ?_
          refine k_X10_seen s8 hN9 ?_
          rw [iN_of hN9.2.2.2.2.1]
          refine z_aload_n G dX10_isSeen_64 rfl ?_
          refine z_getR G fl_X10_16 rfl dX10_isSeen_65 (by assumption) (by assumption) ?_
          refine z_iload_n G dX10_isSeen_68 rfl ?_
          refine z_iload G dX10_isSeen_69 rfl ?_
          refine z_iadd G dX10_isSeen_71 ?_
          refine z_iald G (f0 + k) dX10_isSeen_72 (by assumption) (by simp (disch := omega) only [iN_lit, iN_add, iN_sub, iN_mul, iN_an, iN_of hf0, iN_of hu]; exact iN_ti2 (by omega) (by omega)) (by omega) ?_
          rw [hJ2f (m + 3) (by omega)]
          refine z_icmp_ne G 80 dX10_isSeen_73 (by decide) (fun b73 => ?_) (fun b73 => ?_)
          · refine z_iconst G (v := 0) dX10_isSeen_80 (by decide) ?_
            refine z_istore G dX10_isSeen_81 (Nat.le_of_ble_eq_true rfl) rfl ?_
            refine z_iinc G (v := 1) dX10_isSeen_83 (by decide) rfl rfl ?_
            refine z_goto G 27 dX10_isSeen_86 (by decide) ?_
            exact ih (k + 1) _ 0 J2 T9 t9 c (by simp (disch := omega) only [iN_lit, iN_add, iN_sub, iN_mul, iN_an, iN_of hu]; exact iN_ti2 (by omega) (by omega)) (by omega) hJ2f hh2 hV9 (Or.inr ⟨rfl, fun z => b73 (by have h9 := ((hb.resolve_right (fun z => b54 z.1)).2.mp z).1; rw [← hrow, hsee] at h9; exact h9)⟩)
          · refine z_iconst G (v := 1) dX10_isSeen_76 (by decide) ?_
            refine z_goto G 81 dX10_isSeen_77 (by decide) ?_
            refine z_istore G dX10_isSeen_81 (Nat.le_of_ble_eq_true rfl) rfl ?_
            refine z_iinc G (v := 1) dX10_isSeen_83 (by decide) rfl rfl ?_
            refine z_goto G 27 dX10_isSeen_86 (by decide) ?_
            exact ih (k + 1) _ 1 J2 T9 t9 c (by simp (disch := omega) only [iN_lit, iN_add, iN_sub, iN_mul, iN_an, iN_of hu]; exact iN_ti2 (by omega) (by omega)) (by omega) hJ2f hh2 hV9 (Or.inl ⟨rfl, (hb.resolve_right (fun z => b54 z.1)).2.trans ⟨fun z => by rw [hrow]; exact z.2, fun z => ⟨by rw [← hrow, hsee]; exact b73, by rw [← hrow]; exact z⟩⟩⟩)
      · intro hm
        refine z_if_eq G 52 dX10_isSeen_41 (by decide) (fun _ => ?_) (fun c => absurd c (by decide))
        have hm2 : ¬ mayP (J (m + 8)) 2 := fun z => hm ((hVv.may2 hN c1).mp z)
        obtain ⟨J2, hJ2⟩ : ∃ J2, J2 = J := ⟨_, rfl⟩
        refine z_I (I' := J2) hJ2.symm ?_
        have hrow : J2 (m + 8) = stF (J (m + 8)) := by rw [hJ2, stF_n hm2]
        have hfr : ∀ k, k ≠ m + 8 → J2 k = J k := fun k a => by rw [hJ2]
        obtain ⟨T9, t9, hV9⟩ := hVv.stK
        rw [← hrow] at hV9
        obtain ⟨s9, p9, hN9, hpn9⟩ := hV9.nw
        have hsee := hN9.see
        have hh2 : ∀ i, 124 ≤ i → J2 (m + 8) i = old i := fun i hi => by rw [hrow, hVv.stHi i hi]; exact hh i hi
        have hJ2f : ∀ k, k ≠ m + 8 → J2 k = I k := fun q a => (hfr q a).trans (hJ q a)
        refine z_iload G dX10_isSeen_52 rfl ?_
        refine z_if_eq G 80 dX10_isSeen_54 (by decide) (fun b54 => ?_) (fun b54 => ?_)
        · refine z_iconst G (v := 0) dX10_isSeen_80 (by decide) ?_
          refine z_istore G dX10_isSeen_81 (Nat.le_of_ble_eq_true rfl) rfl ?_
          refine z_iinc G (v := 1) dX10_isSeen_83 (by decide) rfl rfl ?_
          refine z_goto G 27 dX10_isSeen_86 (by decide) ?_
          exact ih (k + 1) _ 0 J2 T9 t9 c (by simp (disch := omega) only [iN_lit, iN_add, iN_sub, iN_mul, iN_an, iN_of hu]; exact iN_ti2 (by omega) (by omega)) (by omega) hJ2f hh2 hV9 (Or.inr ⟨rfl, hb.elim (fun z => by rw [z.1] at b54; exact absurd b54 (by decide)) (fun z => z.2)⟩)
        · refine z_aload_n G dX10_isSeen_57 rfl ?_
          refine z_getR G fl_X10_31 rfl dX10_isSeen_58 (by assumption) (by assumption) ?_
          refine z_S G lk_X10_157 dX10_isSeen_61 [_] rfl rfl rfl (Nat.le_of_ble_eq_true rfl) ⟨Nat.le_refl _, Nat.le_refl _⟩ ?_
          refine k_X10_seen s8 hN9 ?_
          rw [iN_of hN9.2.2.2.2.1]
          refine z_aload_n G dX10_isSeen_64 rfl ?_
          refine z_getR G fl_X10_16 rfl dX10_isSeen_65 (by assumption) (by assumption) ?_
          refine z_iload_n G dX10_isSeen_68 rfl ?_
          refine z_iload G dX10_isSeen_69 rfl ?_
          refine z_iadd G dX10_isSeen_71 ?_
          refine z_iald G (f0 + k) dX10_isSeen_72 (by assumption) (by simp (disch := omega) only [iN_lit, iN_add, iN_sub, iN_mul, iN_an, iN_of hf0, iN_of hu]; exact iN_ti2 (by omega) (by omega)) (by omega) ?_
          rw [hJ2f (m + 3) (by omega)]
          refine z_icmp_ne G 80 dX10_isSeen_73 (by decide) (fun b73 => ?_) (fun b73 => ?_)
          · refine z_iconst G (v := 0) dX10_isSeen_80 (by decide) ?_
            refine z_istore G dX10_isSeen_81 (Nat.le_of_ble_eq_true rfl) rfl ?_
            refine z_iinc G (v := 1) dX10_isSeen_83 (by decide) rfl rfl ?_
            refine z_goto G 27 dX10_isSeen_86 (by decide) ?_
            exact ih (k + 1) _ 0 J2 T9 t9 c (by simp (disch := omega) only [iN_lit, iN_add, iN_sub, iN_mul, iN_an, iN_of hu]; exact iN_ti2 (by omega) (by omega)) (by omega) hJ2f hh2 hV9 (Or.inr ⟨rfl, fun z => b73 (by have h9 := ((hb.resolve_right (fun z => b54 z.1)).2.mp z).1; rw [← hrow, hsee] at h9; exact h9)⟩)
          · refine z_iconst G (v := 1) dX10_isSeen_76 (by decide) ?_
            refine z_goto G 81 dX10_isSeen_77 (by decide) ?_
            refine z_istore G dX10_isSeen_81 (Nat.le_of_ble_eq_true rfl) rfl ?_
            refine z_iinc G (v := 1) dX10_isSeen_83 (by decide) rfl rfl ?_
            refine z_goto G 27 dX10_isSeen_86 (by decide) ?_
            exact ih (k + 1) _ 1 J2 T9 t9 c (by simp (disch := omega) only [iN_lit, iN_add, iN_sub, iN_mul, iN_an, iN_of hu]; exact iN_ti2 (by omega) (by omega)) (by omega) hJ2f hh2 hV9 (Or.inl ⟨rfl, (hb.resolve_right (fun z => b54 z.1)).2.trans ⟨fun z => by rw [hrow]; exact z.2, fun z => ⟨by rw [← hrow, hsee]; exact b73, by rw [← hrow]; exact z⟩⟩⟩)
  refine z_aload_n G dX10_isSeen_0 rfl ?_
  refine z_getR G fl_X10_25 rfl dX10_isSeen_1 (by assumption) (by assumption) ?_
  refine z_iconst G (v := 0) dX10_isSeen_4 (by decide) ?_
  refine z_aload_n G dX10_isSeen_5 rfl ?_
  refine z_getR G fl_X10_31 rfl dX10_isSeen_6 (by assumption) (by assumption) ?_
  refine z_iconst G (v := 0) dX10_isSeen_9 (by decide) ?_
  refine z_S G lk_X10_146 dX10_isSeen_10 [_, _, _, _] rfl rfl rfl (Nat.le_of_ble_eq_true rfl) ⟨Nat.le_refl _, Nat.le_refl _⟩ ?_
  refine k_X10_copies s6 s8 (by omega) (f := 0) (g := 0) rfl rfl (by omega) (by omega) ⟨by omega, by omega⟩ ?_
  rw [hw, cpy_hi hold]
  refine z_aload_n G dX10_isSeen_13 rfl ?_
  refine z_getR G fl_X10_31 rfl dX10_isSeen_14 (by assumption) (by assumption) ?_
  refine z_iload_n G dX10_isSeen_17 rfl ?_
  refine z_iload G dX10_isSeen_18 rfl ?_
  refine z_iast G (pl) dX10_isSeen_20 (by assumption) (hpl) (by omega) ?_
  refine z_iconst G (v := 1) dX10_isSeen_21 (by decide) ?_
  refine z_istore G dX10_isSeen_22 (Nat.le_of_ble_eq_true rfl) rfl ?_
  refine z_iconst G (v := 0) dX10_isSeen_24 (by decide) ?_
  refine z_istore G dX10_isSeen_25 (Nat.le_of_ble_eq_true rfl) rfl ?_
  refine z_I (I' := va_up I (m + 8) (va_up (va_cpy w old 0 0 124) pl x)) (by rw [va_up_up, va_at' rfl]) ?_
  exact loop K 0 0 1 _ T t c rfl (by omega) (fun q a => va_ne' a) (fun i hi => by rw [va_at' rfl, va_ne' (by omega), cpy_off (by omega)]) (by rw [va_at' rfl]; exact hV) (Or.inl ⟨rfl, by rw [va_at' rfl]⟩)
set_option maxHeartbeats 1000000 in
set_option maxRecDepth 20000 in
theorem k_X10_fits {E : pmE} {d : Nat} {S : pmS} {I : pmI} {P : pmP} {R : Option Value → pmS → pmI → pmP → Prop} {m : Nat} (hM : MG S P m) {n T t c : Nat} {w : Nat → Int32} (hw : I (m + 6) = w) (hV : Vd w n T t c) {old : Nat → Int32} (hold : ∀ i, 124 ≤ i → I (m + 8) i = old i) (hsz : ∀ k, k < 8 → ∃ z : Nat, (I (m + 2) k).toInt = (z : Int) ∧ z ≤ 40) {page row i nn what : Int32} (hb : (¬ ∃ q r K e : Nat, page.toInt = (q : Int) ∧ q < n ∧ row.toInt = (r : Int) ∧ r < 8 ∧ nn.toInt = (K : Int) ∧ 1 ≤ K ∧ K ≤ 12 ∧ what.toInt = (e : Int) ∧ e ≤ 3) → R (some (.int (-1000001))) S I P) (hm : ∀ q r K : Nat, page.toInt = (q : Int) → q < n → row.toInt = (r : Int) → r < 8 → nn.toInt = (K : Int) → 1 ≤ K → K ≤ 12 → what.toInt ≤ 3 → 0 ≤ what.toInt → I (m + 1) r = -1000000 → R (some (.int (-1000010 - 1))) S (va_up I m (va_up (I m) 4 1)) P) (hp : ∀ q r K : Nat, page.toInt = (q : Int) → q < n → row.toInt = (r : Int) → r < 8 → nn.toInt = (K : Int) → 1 ≤ K → K ≤ 12 → what.toInt ≤ 3 → 0 ≤ what.toInt → ∀ z : Nat, ¬ I (m + 1) r = -1000000 → (I (m + 2) r).toInt = (z : Int) → z ≤ 40 → ¬ PL i nn z → R (some (.int (-1000010 - 2))) S (va_up I m (va_up (I m) 4 2)) P) (hok : ∀ q r K : Nat, page.toInt = (q : Int) → q < n → row.toInt = (r : Int) → r < 8 → nn.toInt = (K : Int) → 1 ≤ K → K ≤ 12 → what.toInt ≤ 3 → 0 ≤ what.toInt → ∀ (z i0 s p : Nat) (J : pmI), ¬ I (m + 1) r = -1000000 → (I (m + 2) r).toInt = (z : Int) → z ≤ 40 → i.toInt = (i0 : Int) → i0 + K ≤ z → Nw w t s p → (∀ k, k ≠ m + 8 → J k = I k) → (∀ i, 124 ≤ i → J (m + 8) i = old i) → R (some (.int (fitI (va_cpy w old 0 0 124) n t s q K what (fun k => I (m + 3) (40 * r + i0 + k))))) S (va_up J m (va_up (I m) 4 0)) P) : pmX E (d + 5) 0 0 yX10_fits [rr E m, .int page, .int row, .int i, .int nn, .int what] S I P R := by
  refine pm_of (by decide) cd_X10_fits (by decide) (by decide) (Nat.le_of_ble_eq_true rfl) ?_
  intro C G hq
  obtain ⟨g0, ⟨r0, r1, r2, r3, r4, r5, r6, r7, r8, r9, r10, r11, r12, r13, r14⟩, ⟨s1, s2, s3, s4, s5, s6, s7, s8, s9, s10, s11, s12, s13, s14, s15⟩⟩ := id hM
  obtain ⟨v1, v2, v3, v4, v5, v6, v7, v8⟩ := id hV
  obtain ⟨s, p, hN, hpn⟩ := hV.nw
  have hVc := hV.cpy (old := old)
  have hok2 : ∀ q r K : Nat, page.toInt = (q : Int) → q < n → row.toInt = (r : Int) → r < 8 → nn.toInt = (K : Int) → 1 ≤ K → K ≤ 12 → what.toInt ≤ 3 → 0 ≤ what.toInt → ∀ (z i0 : Nat) (J : pmI), ¬ I (m + 1) r = -1000000 → (I (m + 2) r).toInt = (z : Int) → z ≤ 40 → i.toInt = (i0 : Int) → i0 + K ≤ z → (∀ k, k ≠ m + 8 → J k = I k) → (∀ i, 124 ≤ i → J (m + 8) i = old i) → R (some (.int (fitI (va_cpy w old 0 0 124) n t s q K what (fun k => I (m + 3) (40 * r + i0 + k))))) S (va_up J m (va_up (J m) 4 0)) P := fun q r K h1 h2 h3 h4 h5 h6 h7 h8 h9 z i0 J g1 g2 g3 g4 g5 hJ hh => by rw [hJ m (by omega)]; exact hok q r K h1 h2 h3 h4 h5 h6 h7 h8 h9 z i0 s p J g1 g2 g3 g4 g5 hN hJ hh
  have loopZ : ∀ q r K : Nat, page.toInt = (q : Int) → q < n → row.toInt = (r : Int) → r < 8 → nn.toInt = (K : Int) → 1 ≤ K → K ≤ 12 → what.toInt ≤ 3 → 0 ≤ what.toInt → ∀ (z i0 pl : Nat) (x6 : Option Value), ¬ I (m + 1) r = -1000000 → (I (m + 2) r).toInt = (z : Int) → z ≤ 40 → i.toInt = (i0 : Int) → i0 + K ≤ z → what = 0 → pl < 124 → (∀ v, v < 6 → 1 ≤ v → Vd (va_up (va_cpy w old 0 0 124) pl (iN v)) n T t c) → fitI (va_cpy w old 0 0 124) n t s q K what (fun k => I (m + 3) (40 * r + i0 + k)) = bitsF (fun v => fitL (fun k => I (m + 3) (40 * r + i0 + k)) K 0 (va_up (va_cpy w old 0 0 124) pl (iN v))) 1 5 → ∀ (rr9 k : Nat) (u : Int32) (J : pmI), u.toInt = ((1 + k : Nat) : Int) → k + rr9 = 5 → (∀ k, k ≠ m + 8 → J k = I k) → (∀ i, 124 ≤ i → J (m + 8) i = old i) → pmZ E C 149 [some (rr E m), some (.int page), some (.int row), some (.int i), some (.int nn), some (.int what), x6, some (.int (iN pl)), some (.int (bitsF (fun v => fitL (fun k => I (m + 3) (40 * r + i0 + k)) K 0 (va_up (va_cpy w old 0 0 124) pl (iN v))) 1 k)), some (.int u)] [] S J P 0 0 := by
    intro q r K hq1 hq2 hr1 hr8 hK1 hK2 hK3 hwh3 hwh0 z i0 pl x6 ht hz1 hz2 hi1 hpl2 hwz hpl hVp hfe rr9
    induction rr9 with
    | zero =>
      intro k u J hu hr hJ hh
      obtain rfl : k = 5 := by omega
      refine z_iload G dX10_fits_149 rfl ?_
      refine z_iload G dX10_fits_151 rfl ?_
      refine z_if_ne G 161 dX10_fits_153 (by decide) (fun c => absurd c (fun z => z hwz)) (fun _ => ?_)
      refine z_bipush G (v := 6) dX10_fits_156 (by decide) ?_
      refine z_goto G 167 dX10_fits_158 (by decide) ?_
      refine z_icmp_ge G 208 dX10_fits_167 (by decide) (fun _ => ?_) (fun c => absurd c (fun z => z (by simp (disch := omega) only [iN_lit, iN_add, iN_sub, iN_mul, iN_an, iN_le, iN_lt, iN_eq, iN_of hu] <;> omega)))
      refine z_aload_n G dX10_fits_208 rfl ?_
      refine z_iload G dX10_fits_209 rfl ?_
      refine z_V G lk_X10_75 dX10_fits_211 [_] rfl rfl rfl (Nat.le_of_ble_eq_true rfl) ⟨Nat.le_refl _, Nat.le_refl _⟩ (by assumption) ?_
      refine k_X10_well hM ?_
      exact z_iret G hq dX10_fits_214 (by rw [← hfe]; exact hok2 q r K hq1 hq2 hr1 hr8 hK1 hK2 hK3 hwh3 hwh0 z i0 J ht hz1 hz2 hi1 hpl2 hJ hh)
    | succ rr9 ih =>
      intro k u J hu hr hJ hh
      refine z_iload G dX10_fits_149 rfl ?_
      refine z_iload G dX10_fits_151 rfl ?_
      refine z_if_ne G 161 dX10_fits_153 (by decide) (fun c => absurd c (fun z => z hwz)) (fun _ => ?_)
      refine z_bipush G (v := 6) dX10_fits_156 (by decide) ?_
      refine z_goto G 167 dX10_fits_158 (by decide) ?_
      refine z_icmp_ge G 208 dX10_fits_167 (by decide) (fun c => absurd c (by simp (disch := omega) only [iN_lit, iN_add, iN_sub, iN_mul, iN_an, iN_le, iN_lt, iN_eq, iN_of hu]; omega)) (fun _ => ?_)
      refine z_iload G dX10_fits_170 rfl ?_
      refine z_aload_n G dX10_fits_172 rfl ?_
      refine z_bipush G (v := 40) dX10_fits_173 (by decide) ?_
      refine z_iload_n G dX10_fits_175 rfl ?_
      refine z_imul G dX10_fits_176 ?_
      refine z_iload_n G dX10_fits_177 rfl ?_
      refine z_iadd G dX10_fits_178 ?_
      refine z_iload G dX10_fits_179 rfl ?_
      refine z_iload G dX10_fits_181 rfl ?_
      refine z_iload G dX10_fits_183 rfl ?_
      rw [iN_of hu]
      refine z_V G lk_X10_227 dX10_fits_185 [_, _, _, _] rfl rfl rfl (Nat.le_of_ble_eq_true rfl) ⟨Nat.le_refl _, Nat.le_refl _⟩ (by assumption) ?_
      refine k_X10_isSeen hM (w := w) (by rw [hJ (m + 6) (by omega)]; exact hw) hh (f0 := 40 * r + i0) (by simp (disch := omega) only [iN_lit, iN_add, iN_sub, iN_mul, iN_an, iN_of hr1, iN_of hi1]; exact iN_ti2 (by omega) (by omega)) hK1 (by omega) (iN_ti (by omega)) hpl (hVp (1 + k) (by omega) (by omega)) ?_ ?_
      · intro hfit J2 hJ2 hh2
        refine z_if_eq G 198 dX10_fits_188 (by decide) (fun c => absurd c (by decide)) (fun _ => ?_)
        rw [hJ (m + 3) (by omega)] at hfit
        refine z_iconst G (v := 1) dX10_fits_191 (by decide) ?_
        refine z_iload G dX10_fits_192 rfl ?_
        refine z_ishl G dX10_fits_194 ?_
        refine z_goto G 199 dX10_fits_195 (by decide) ?_
        refine z_ior G dX10_fits_199 ?_
        refine z_istore G dX10_fits_200 (Nat.le_of_ble_eq_true rfl) rfl ?_
        refine z_iinc G (v := 1) dX10_fits_202 (by decide) rfl rfl ?_
        refine z_goto G 149 dX10_fits_205 (by decide) ?_
        refine z_eq rfl ?_ rfl rfl rfl (ih (k + 1) (u + 1) J2 (by simp (disch := omega) only [iN_lit, iN_add, iN_sub, iN_mul, iN_an, iN_of hu]; exact iN_ti2 (by omega) (by omega)) (by omega) (fun q a => (hJ2 q a).trans (hJ q a)) hh2)
        show _ = [some (rr E m), some (.int page), some (.int row), some (.int i), some (.int nn), some (.int what), x6, some (.int (iN pl)), some (.int (bitsF (fun v => fitL (fun k => I (m + 3) (40 * r + i0 + k)) K 0 (va_up (va_cpy w old 0 0 124) pl (iN v))) 1 k ||| @ite Int32 (fitL (fun k => I (m + 3) (40 * r + i0 + k)) K 0 (va_up (va_cpy w old 0 0 124) pl (iN (1 + k)))) (Classical.propDecidable _) (1 <<< (iN (1 + k) &&& 31)) 0)), some (.int (u + 1))]
        rw [if_pos hfit, ← iN_of hu]
        all_goals rfl
      · intro hfit J2 hJ2 hh2
        refine z_if_eq G 198 dX10_fits_188 (by decide) (fun _ => ?_) (fun c => absurd c (by decide))
        rw [hJ (m + 3) (by omega)] at hfit
        refine z_iconst G (v := 0) dX10_fits_198 (by decide) ?_
        refine z_ior G dX10_fits_199 ?_
        refine z_istore G dX10_fits_200 (Nat.le_of_ble_eq_true rfl) rfl ?_
        refine z_iinc G (v := 1) dX10_fits_202 (by decide) rfl rfl ?_
        refine z_goto G 149 dX10_fits_205 (by decide) ?_
        refine z_eq rfl ?_ rfl rfl rfl (ih (k + 1) (u + 1) J2 (by simp (disch := omega) only [iN_lit, iN_add, iN_sub, iN_mul, iN_an, iN_of hu]; exact iN_ti2 (by omega) (by omega)) (by omega) (fun q a => (hJ2 q a).trans (hJ q a)) hh2)
        show _ = [some (rr E m), some (.int page), some (.int row), some (.int i), some (.int nn), some (.int what), x6, some (.int (iN pl)), some (.int (bitsF (fun v => fitL (fun k => I (m + 3) (40 * r + i0 + k)) K 0 (va_up (va_cpy w old 0 0 124) pl (iN v))) 1 k ||| @ite Int32 (fitL (fun k => I (m + 3) (40 * r + i0 + k)) K 0 (va_up (va_cpy w old 0 0 124) pl (iN (1 + k)))) (Classical.propDecidable _) (1 <<< (iN (1 + k) &&& 31)) 0)), some (.int (u + 1))]
        rw [if_neg hfit, ← iN_of hu]
        all_goals rfl
  have loopN : ∀ q r K : Nat, page.toInt = (q : Int) → q < n → row.toInt = (r : Int) → r < 8 → nn.toInt = (K : Int) → 1 ≤ K → K ≤ 12 → what.toInt ≤ 3 → 0 ≤ what.toInt → ∀ (z i0 pl : Nat) (x6 : Option Value), ¬ I (m + 1) r = -1000000 → (I (m + 2) r).toInt = (z : Int) → z ≤ 40 → i.toInt = (i0 : Int) → i0 + K ≤ z → ¬ what = 0 → pl < 124 → (∀ v, v < n → Vd (va_up (va_cpy w old 0 0 124) pl (iN v)) n T t c) → fitI (va_cpy w old 0 0 124) n t s q K what (fun k => I (m + 3) (40 * r + i0 + k)) = bitsF (fun v => fitL (fun k => I (m + 3) (40 * r + i0 + k)) K 0 (va_up (va_cpy w old 0 0 124) pl (iN v))) 0 n → ∀ (rr9 k : Nat) (u : Int32) (J : pmI), u.toInt = ((0 + k : Nat) : Int) → k + rr9 = n → (∀ k, k ≠ m + 8 → J k = I k) → (∀ i, 124 ≤ i → J (m + 8) i = old i) → pmZ E C 149 [some (rr E m), some (.int page), some (.int row), some (.int i), some (.int nn), some (.int what), x6, some (.int (iN pl)), some (.int (bitsF (fun v => fitL (fun k => I (m + 3) (40 * r + i0 + k)) K 0 (va_up (va_cpy w old 0 0 124) pl (iN v))) 0 k)), some (.int u)] [] S J P 0 0 := by
    intro q r K hq1 hq2 hr1 hr8 hK1 hK2 hK3 hwh3 hwh0 z i0 pl x6 ht hz1 hz2 hi1 hpl2 hwz hpl hVp hfe rr9
    induction rr9 with
    | zero =>
      intro k u J hu hr hJ hh
      obtain rfl : k = n := by omega
      refine z_iload G dX10_fits_149 rfl ?_
      refine z_iload G dX10_fits_151 rfl ?_
      refine z_if_ne G 161 dX10_fits_153 (by decide) (fun _ => ?_) (fun c => absurd c hwz)
      refine z_aload_n G dX10_fits_161 rfl ?_
      refine z_getR G fl_X10_25 rfl dX10_fits_162 (by assumption) (by assumption) ?_
      refine z_iconst G (v := 0) dX10_fits_165 (by decide) ?_
      refine z_iald G (0) dX10_fits_166 (by assumption) (rfl) (by omega) ?_
      rw [hJ (m + 6) (by omega), hw]
      refine z_icmp_ge G 208 dX10_fits_167 (by decide) (fun _ => ?_) (fun c => absurd c (fun z => z (by simp (disch := omega) only [iN_lit, iN_add, iN_sub, iN_mul, iN_an, iN_le, iN_lt, iN_eq, iN_of hu, iN_of (v1.1)] <;> omega)))
      refine z_aload_n G dX10_fits_208 rfl ?_
      refine z_iload G dX10_fits_209 rfl ?_
      refine z_V G lk_X10_75 dX10_fits_211 [_] rfl rfl rfl (Nat.le_of_ble_eq_true rfl) ⟨Nat.le_refl _, Nat.le_refl _⟩ (by assumption) ?_
      refine k_X10_well hM ?_
      exact z_iret G hq dX10_fits_214 (by rw [← hfe]; exact hok2 q r K hq1 hq2 hr1 hr8 hK1 hK2 hK3 hwh3 hwh0 z i0 J ht hz1 hz2 hi1 hpl2 hJ hh)
    | succ rr9 ih =>
      intro k u J hu hr hJ hh
      refine z_iload G dX10_fits_149 rfl ?_
      refine z_iload G dX10_fits_151 rfl ?_
      refine z_if_ne G 161 dX10_fits_153 (by decide) (fun _ => ?_) (fun c => absurd c hwz)
      refine z_aload_n G dX10_fits_161 rfl ?_
      refine z_getR G fl_X10_25 rfl dX10_fits_162 (by assumption) (by assumption) ?_
      refine z_iconst G (v := 0) dX10_fits_165 (by decide) ?_
      refine z_iald G (0) dX10_fits_166 (by assumption) (rfl) (by omega) ?_
      rw [hJ (m + 6) (by omega), hw]
      refine z_icmp_ge G 208 dX10_fits_167 (by decide) (fun c => absurd c (by simp (disch := omega) only [iN_lit, iN_add, iN_sub, iN_mul, iN_an, iN_le, iN_lt, iN_eq, iN_of hu, iN_of (v1.1)]; omega)) (fun _ => ?_)
      refine z_iload G dX10_fits_170 rfl ?_
      refine z_aload_n G dX10_fits_172 rfl ?_
      refine z_bipush G (v := 40) dX10_fits_173 (by decide) ?_
      refine z_iload_n G dX10_fits_175 rfl ?_
      refine z_imul G dX10_fits_176 ?_
      refine z_iload_n G dX10_fits_177 rfl ?_
      refine z_iadd G dX10_fits_178 ?_
      refine z_iload G dX10_fits_179 rfl ?_
      refine z_iload G dX10_fits_181 rfl ?_
      refine z_iload G dX10_fits_183 rfl ?_
      rw [iN_of hu]
      refine z_V G lk_X10_227 dX10_fits_185 [_, _, _, _] rfl rfl rfl (Nat.le_of_ble_eq_true rfl) ⟨Nat.le_refl _, Nat.le_refl _⟩ (by assumption) ?_
      refine k_X10_isSeen hM (w := w) (by rw [hJ (m + 6) (by omega)]; exact hw) hh (f0 := 40 * r + i0) (by simp (disch := omega) only [iN_lit, iN_add, iN_sub, iN_mul, iN_an, iN_of hr1, iN_of hi1]; exact iN_ti2 (by omega) (by omega)) hK1 (by omega) (iN_ti (by omega)) hpl (hVp (0 + k) (by omega)) ?_ ?_
      · intro hfit J2 hJ2 hh2
        refine z_if_eq G 198 dX10_fits_188 (by decide) (fun c => absurd c (by decide)) (fun _ => ?_)
        rw [hJ (m + 3) (by omega)] at hfit
        refine z_iconst G (v := 1) dX10_fits_191 (by decide) ?_
        refine z_iload G dX10_fits_192 rfl ?_
        refine z_ishl G dX10_fits_194 ?_
        refine z_goto G 199 dX10_fits_195 (by decide) ?_
        refine z_ior G dX10_fits_199 ?_
        refine z_istore G dX10_fits_200 (Nat.le_of_ble_eq_true rfl) rfl ?_
        refine z_iinc G (v := 1) dX10_fits_202 (by decide) rfl rfl ?_
        refine z_goto G 149 dX10_fits_205 (by decide) ?_
        refine z_eq rfl ?_ rfl rfl rfl (ih (k + 1) (u + 1) J2 (by simp (disch := omega) only [iN_lit, iN_add, iN_sub, iN_mul, iN_an, iN_of hu]; exact iN_ti2 (by omega) (by omega)) (by omega) (fun q a => (hJ2 q a).trans (hJ q a)) hh2)
        show _ = [some (rr E m), some (.int page), some (.int row), some (.int i), some (.int nn), some (.int what), x6, some (.int (iN pl)), some (.int (bitsF (fun v => fitL (fun k => I (m + 3) (40 * r + i0 + k)) K 0 (va_up (va_cpy w old 0 0 124) pl (iN v))) 0 k ||| @ite Int32 (fitL (fun k => I (m + 3) (40 * r + i0 + k)) K 0 (va_up (va_cpy w old 0 0 124) pl (iN (0 + k)))) (Classical.propDecidable _) (1 <<< (iN (0 + k) &&& 31)) 0)), some (.int (u + 1))]
        rw [if_pos hfit, ← iN_of hu]
        all_goals rfl
      · intro hfit J2 hJ2 hh2
        refine z_if_eq G 198 dX10_fits_188 (by decide) (fun _ => ?_) (fun c => absurd c (by decide))
        rw [hJ (m + 3) (by omega)] at hfit
        refine z_iconst G (v := 0) dX10_fits_198 (by decide) ?_
        refine z_ior G dX10_fits_199 ?_
        refine z_istore G dX10_fits_200 (Nat.le_of_ble_eq_true rfl) rfl ?_
        refine z_iinc G (v := 1) dX10_fits_202 (by decide) rfl rfl ?_
        refine z_goto G 149 dX10_fits_205 (by decide) ?_
        refine z_eq rfl ?_ rfl rfl rfl (ih (k + 1) (u + 1) J2 (by simp (disch := omega) only [iN_lit, iN_add, iN_sub, iN_mul, iN_an, iN_of hu]; exact iN_ti2 (by omega) (by omega)) (by omega) (fun q a => (hJ2 q a).trans (hJ q a)) hh2)
        show _ = [some (rr E m), some (.int page), some (.int row), some (.int i), some (.int nn), some (.int what), x6, some (.int (iN pl)), some (.int (bitsF (fun v => fitL (fun k => I (m + 3) (40 * r + i0 + k)) K 0 (va_up (va_cpy w old 0 0 124) pl (iN v))) 0 k ||| @ite Int32 (fitL (fun k => I (m + 3) (40 * r + i0 + k)) K 0 (va_up (va_cpy w old 0 0 124) pl (iN (0 + k)))) (Classical.propDecidable _) (1 <<< (iN (0 + k) &&& 31)) 0)), some (.int (u + 1))]
        rw [if_neg hfit, ← iN_of hu]
        all_goals rfl
  refine z_aload_n G dX10_fits_0 rfl ?_
  refine z_iload_n G dX10_fits_1 rfl ?_
  refine z_V G lk_X10_205 dX10_fits_2 [_] rfl rfl rfl (Nat.le_of_ble_eq_true rfl) ⟨Nat.le_refl _, Nat.le_refl _⟩ (by assumption) ?_
  refine k_X10_isPage hM (by rw [hw]; exact v1.1) v1.2.2 ?_ ?_
  · intro q hq1 hq2
    refine z_if_eq G 36 dX10_fits_5 (by decide) (fun c => absurd c (by decide)) (fun _ => ?_)
    refine z_iload_n G dX10_fits_8 rfl ?_
    refine z_S G lk_X10_66 dX10_fits_9 [_] rfl rfl rfl (Nat.le_of_ble_eq_true rfl) ⟨Nat.le_refl _, Nat.le_refl _⟩ ?_
    refine k_X10_isRow ?_ ?_
    · intro r hr1 hr8
      refine z_if_eq G 36 dX10_fits_12 (by decide) (fun c => absurd c (by decide)) (fun _ => ?_)
      refine z_iload G dX10_fits_15 rfl ?_
      refine z_iconst G (v := 1) dX10_fits_17 (by decide) ?_
      refine z_bipush G (v := 12) dX10_fits_18 (by decide) ?_
      refine z_S G lk_X10_62 dX10_fits_20 [_, _, _] rfl rfl rfl (Nat.le_of_ble_eq_true rfl) ⟨Nat.le_refl _, Nat.le_refl _⟩ ?_
      refine k_X10_in ?_ ?_
      · intro hin
        refine z_if_eq G 36 dX10_fits_23 (by decide) (fun c => absurd c (by decide)) (fun _ => ?_)
        refine z_iload G dX10_fits_26 rfl ?_
        refine z_iconst G (v := 0) dX10_fits_28 (by decide) ?_
        refine z_iconst G (v := 3) dX10_fits_29 (by decide) ?_
        refine z_S G lk_X10_62 dX10_fits_30 [_, _, _] rfl rfl rfl (Nat.le_of_ble_eq_true rfl) ⟨Nat.le_refl _, Nat.le_refl _⟩ ?_
        refine k_X10_in ?_ ?_
        · intro hin2
          refine z_if_ne G 39 dX10_fits_33 (by decide) (fun _ => ?_) (fun c => absurd c (by decide))
          obtain ⟨K, hK1, hK2, hK3⟩ : ∃ k : Nat, nn.toInt = (k : Int) ∧ 1 ≤ k ∧ k ≤ 12 := ⟨nn.toInt.toNat, by simp only [ti_lt, ti_le, Int32.reduceToInt] at hin; omega, by simp only [ti_lt, ti_le, Int32.reduceToInt] at hin; omega, by simp only [ti_lt, ti_le, Int32.reduceToInt] at hin; omega⟩
          have hwh3 : what.toInt ≤ 3 := by simp only [ti_lt, ti_le, Int32.reduceToInt] at hin2; omega
          have hwh0 : 0 ≤ what.toInt := by simp only [ti_lt, ti_le, Int32.reduceToInt] at hin2; omega
          refine z_aload_n G dX10_fits_39 rfl ?_
          refine z_iload_n G dX10_fits_40 rfl ?_
          refine z_V G lk_X10_78 dX10_fits_41 [_] rfl rfl rfl (Nat.le_of_ble_eq_true rfl) ⟨Nat.le_refl _, Nat.le_refl _⟩ (by assumption) ?_
          refine k_X10_isMissing hM hr1 hr8 ?_ ?_
          · intro hmi
            refine z_if_eq G 53 dX10_fits_44 (by decide) (fun c => absurd c (by decide)) (fun _ => ?_)
            refine z_aload_n G dX10_fits_47 rfl ?_
            refine z_iconst G (v := 1) dX10_fits_48 (by decide) ?_
            refine z_V G lk_X10_71 dX10_fits_49 [_] rfl rfl rfl (Nat.le_of_ble_eq_true rfl) ⟨Nat.le_refl _, Nat.le_refl _⟩ (by assumption) ?_
            refine k_X10_found hM ?_
            exact z_iret G hq dX10_fits_52 (hm q r K hq1 hq2 hr1 hr8 hK1 hK2 hK3 hwh3 hwh0 hmi)
          · intro hmi
            refine z_if_eq G 53 dX10_fits_44 (by decide) (fun _ => ?_) (fun c => absurd c (by decide))
            obtain ⟨z, hz1, hz2⟩ := hsz r hr8
            refine z_aload_n G dX10_fits_53 rfl ?_
            refine z_iload_n G dX10_fits_54 rfl ?_
            refine z_iload_n G dX10_fits_55 rfl ?_
            refine z_iload G dX10_fits_56 rfl ?_
            refine z_V G lk_X10_85 dX10_fits_58 [_, _, _] rfl rfl rfl (Nat.le_of_ble_eq_true rfl) ⟨Nat.le_refl _, Nat.le_refl _⟩ (by assumption) ?_
            refine k_X10_isPart hM hr1 hr8 hz1 hz2 ?_ ?_
            · intro hpl
              refine z_if_ne G 70 dX10_fits_61 (by decide) (fun _ => ?_) (fun c => absurd c (by decide))
              obtain ⟨i0, hi1⟩ : ∃ i0 : Nat, i.toInt = (i0 : Int) := ⟨i.toInt.toNat, by have := hpl.1; omega⟩
              have hpl2 : i0 + K ≤ z := by have := hpl.2.2; omega
              have ht9 := hN.2.1
              have hs9 := hN.2.2.2.1
              refine z_aload_n G dX10_fits_70 rfl ?_
              refine z_getR G fl_X10_25 rfl dX10_fits_71 (by assumption) (by assumption) ?_
              refine z_S G lk_X10_161 dX10_fits_74 [_] rfl rfl rfl (Nat.le_of_ble_eq_true rfl) ⟨Nat.le_refl _, Nat.le_refl _⟩ ?_
              refine k_X10_tabNow s6 (t := t) (by rw [hw]; exact hN.1) hN.2.1 (fun v9 hv9 => ?_)
              obtain rfl := iN_of hv9
              refine z_istore G dX10_fits_77 (Nat.le_of_ble_eq_true rfl) rfl ?_
              refine z_iload G dX10_fits_79 rfl ?_
              refine z_if_ne G 89 dX10_fits_81 (by decide) (fun b81 => ?_) (fun b81 => ?_)
              · refine z_iload G dX10_fits_89 rfl ?_
                refine z_iconst G (v := 1) dX10_fits_91 (by decide) ?_
                refine z_icmp_ne G 112 dX10_fits_92 (by decide) (fun b92 => ?_) (fun b92 => ?_)
                · refine z_iload G dX10_fits_112 rfl ?_
                  refine z_iconst G (v := 2) dX10_fits_114 (by decide) ?_
                  refine z_icmp_ne G 128 dX10_fits_115 (by decide) (fun b115 => ?_) (fun b115 => ?_)
                  · refine z_iload G dX10_fits_128 rfl ?_
                    refine z_iconst G (v := 1) dX10_fits_130 (by decide) ?_
                    refine z_iadd G dX10_fits_131 ?_
                    refine z_top (y := iN (45 + 10 * t)) (by simp (disch := omega) only [iN_lit, iN_add, iN_sub, iN_mul, iN_an] <;> exact congrArg iN (by omega)) ?_
                    refine z_istore G dX10_fits_132 (Nat.le_of_ble_eq_true rfl) rfl ?_
                    refine z_iconst G (v := 0) dX10_fits_134 (by decide) ?_
                    refine z_istore G dX10_fits_135 (Nat.le_of_ble_eq_true rfl) rfl ?_
                    refine z_iload G dX10_fits_137 rfl ?_
                    refine z_if_ne G 146 dX10_fits_139 (by decide) (fun _ => ?_) (fun c => absurd c b81)
                    refine z_iconst G (v := 0) dX10_fits_146 (by decide) ?_
                    refine z_istore G dX10_fits_147 (Nat.le_of_ble_eq_true rfl) rfl ?_
                    exact loopN q r K hq1 hq2 hr1 hr8 hK1 hK2 hK3 hwh3 hwh0 z i0 (45 + 10 * t) _ hmi hz1 hz2 hi1 hpl2 b81 (by omega) (fun v h6 => hVc.homev h6) (by unfold fitI placeF; rw [if_neg b81, if_neg b92, if_neg b115, if_neg b81, if_neg b81]) n 0 0 I rfl (by omega) (fun _ _ => rfl) hold
                  · refine z_iconst G (v := 4) dX10_fits_118 (by decide) ?_
                    refine z_iconst G (v := 5) dX10_fits_119 (by decide) ?_
                    refine z_iload_n G dX10_fits_120 rfl ?_
                    refine z_imul G dX10_fits_121 ?_
                    refine z_iadd G dX10_fits_122 ?_
                    refine z_iconst G (v := 1) dX10_fits_123 (by decide) ?_
                    refine z_iadd G dX10_fits_124 ?_
                    refine z_goto G 132 dX10_fits_125 (by decide) ?_
                    refine z_top (y := iN (5 + 5 * q)) (by simp (disch := omega) only [iN_lit, iN_add, iN_sub, iN_mul, iN_an, iN_of hq1] <;> exact congrArg iN (by omega)) ?_
                    refine z_istore G dX10_fits_132 (Nat.le_of_ble_eq_true rfl) rfl ?_
                    refine z_iconst G (v := 0) dX10_fits_134 (by decide) ?_
                    refine z_istore G dX10_fits_135 (Nat.le_of_ble_eq_true rfl) rfl ?_
                    refine z_iload G dX10_fits_137 rfl ?_
                    refine z_if_ne G 146 dX10_fits_139 (by decide) (fun _ => ?_) (fun c => absurd c b81)
                    refine z_iconst G (v := 0) dX10_fits_146 (by decide) ?_
                    refine z_istore G dX10_fits_147 (Nat.le_of_ble_eq_true rfl) rfl ?_
                    exact loopN q r K hq1 hq2 hr1 hr8 hK1 hK2 hK3 hwh3 hwh0 z i0 (5 + 5 * q) _ hmi hz1 hz2 hi1 hpl2 b81 (by omega) (fun v h6 => hVc.leadv hq2 h6) (by unfold fitI placeF; rw [if_neg b81, if_neg b92, if_pos b115, if_neg b81, if_neg b81]) n 0 0 I rfl (by omega) (fun _ _ => rfl) hold
                · refine z_iload G dX10_fits_95 rfl ?_
                  refine z_iconst G (v := 4) dX10_fits_97 (by decide) ?_
                  refine z_iadd G dX10_fits_98 ?_
                  refine z_aload_n G dX10_fits_99 rfl ?_
                  refine z_getR G fl_X10_25 rfl dX10_fits_100 (by assumption) (by assumption) ?_
                  refine z_iload G dX10_fits_103 rfl ?_
                  refine z_iconst G (v := 3) dX10_fits_105 (by decide) ?_
                  refine z_iadd G dX10_fits_106 ?_
                  refine z_iald G (47 + 10 * t) dX10_fits_107 (by assumption) (by simp (disch := omega) only [iN_lit, iN_add, iN_sub, iN_mul, iN_an]; exact iN_ti2 (by omega) (by omega)) (by omega) ?_
                  rw [hw, iN_of hN.2.2.1]
                  refine z_iadd G dX10_fits_108 ?_
                  refine z_goto G 132 dX10_fits_109 (by decide) ?_
                  refine z_top (y := iN (48 + 10 * t + s)) (by simp (disch := omega) only [iN_lit, iN_add, iN_sub, iN_mul, iN_an] <;> exact congrArg iN (by omega)) ?_
                  refine z_istore G dX10_fits_132 (Nat.le_of_ble_eq_true rfl) rfl ?_
                  refine z_iconst G (v := 0) dX10_fits_134 (by decide) ?_
                  refine z_istore G dX10_fits_135 (Nat.le_of_ble_eq_true rfl) rfl ?_
                  refine z_iload G dX10_fits_137 rfl ?_
                  refine z_if_ne G 146 dX10_fits_139 (by decide) (fun _ => ?_) (fun c => absurd c b81)
                  refine z_iconst G (v := 0) dX10_fits_146 (by decide) ?_
                  refine z_istore G dX10_fits_147 (Nat.le_of_ble_eq_true rfl) rfl ?_
                  exact loopN q r K hq1 hq2 hr1 hr8 hK1 hK2 hK3 hwh3 hwh0 z i0 (48 + 10 * t + s) _ hmi hz1 hz2 hi1 hpl2 b81 (by omega) (fun v h6 => hVc.startv hs9 h6) (by unfold fitI placeF; rw [if_neg b81, if_pos b92, if_neg b81, if_neg b81]) n 0 0 I rfl (by omega) (fun _ _ => rfl) hold
              · refine z_iload G dX10_fits_84 rfl ?_
                refine z_goto G 132 dX10_fits_86 (by decide) ?_
                refine z_istore G dX10_fits_132 (Nat.le_of_ble_eq_true rfl) rfl ?_
                refine z_iconst G (v := 0) dX10_fits_134 (by decide) ?_
                refine z_istore G dX10_fits_135 (Nat.le_of_ble_eq_true rfl) rfl ?_
                refine z_iload G dX10_fits_137 rfl ?_
                refine z_if_ne G 146 dX10_fits_139 (by decide) (fun c => absurd c (fun z => z b81)) (fun _ => ?_)
                refine z_iconst G (v := 1) dX10_fits_142 (by decide) ?_
                refine z_goto G 147 dX10_fits_143 (by decide) ?_
                refine z_istore G dX10_fits_147 (Nat.le_of_ble_eq_true rfl) rfl ?_
                exact loopZ q r K hq1 hq2 hr1 hr8 hK1 hK2 hK3 hwh3 hwh0 z i0 (44 + 10 * t) _ hmi hz1 hz2 hi1 hpl2 b81 (by omega) (fun v h6 h1 => hVc.kindv h1 (by omega)) (by unfold fitI placeF; rw [if_pos b81, if_pos b81, if_pos b81]) 5 0 1 I rfl (rfl) (fun _ _ => rfl) hold
            · intro hpl
              refine z_if_ne G 70 dX10_fits_61 (by decide) (fun c => absurd c (by decide)) (fun _ => ?_)
              refine z_aload_n G dX10_fits_64 rfl ?_
              refine z_iconst G (v := 2) dX10_fits_65 (by decide) ?_
              refine z_V G lk_X10_71 dX10_fits_66 [_] rfl rfl rfl (Nat.le_of_ble_eq_true rfl) ⟨Nat.le_refl _, Nat.le_refl _⟩ (by assumption) ?_
              refine k_X10_found hM ?_
              exact z_iret G hq dX10_fits_69 (hp q r K hq1 hq2 hr1 hr8 hK1 hK2 hK3 hwh3 hwh0 z hmi hz1 hz2 hpl)
        · intro hin2
          refine z_if_ne G 39 dX10_fits_33 (by decide) (fun c => absurd c (by decide)) (fun _ => ?_)
          refine z_ldc G ct_X10_70 dX10_fits_36 ?_
          exact z_iret G hq dX10_fits_38 (hb (fun ⟨q, r, K, e, _, _, _, _, q1, q2, q3, q4, q5⟩ => hin2 (by simp only [ti_lt, ti_le, Int32.reduceToInt]; omega)))
      · intro hin
        refine z_if_eq G 36 dX10_fits_23 (by decide) (fun _ => ?_) (fun c => absurd c (by decide))
        refine z_ldc G ct_X10_70 dX10_fits_36 ?_
        exact z_iret G hq dX10_fits_38 (hb (fun ⟨q, r, K, e, _, _, _, _, q1, q2, q3, q4, q5⟩ => hin (by simp only [ti_lt, ti_le, Int32.reduceToInt]; omega)))
    · intro hno
      refine z_if_eq G 36 dX10_fits_12 (by decide) (fun _ => ?_) (fun c => absurd c (by decide))
      refine z_ldc G ct_X10_70 dX10_fits_36 ?_
      exact z_iret G hq dX10_fits_38 (hb (fun ⟨q, r, K, e, _, _, q1, q2, _⟩ => hno ⟨r, q1, q2⟩))
  · intro hno
    refine z_if_eq G 36 dX10_fits_5 (by decide) (fun _ => ?_) (fun c => absurd c (by decide))
    refine z_ldc G ct_X10_70 dX10_fits_36 ?_
    exact z_iret G hq dX10_fits_38 (hb (fun ⟨q, r, K, e, q1, q2, _⟩ => hno ⟨q, q1, q2⟩))
