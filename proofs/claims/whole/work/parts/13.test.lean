/-- a web's cells -/
def WebG (S : pmS) (P : pmP) (w : Nat) : Prop := OB S w 8 ∧ P w 0 = some (w + 1) ∧ P w 1 = some (w + 2) ∧ AR S (w + 1) 11 8 ∧ AR S (w + 2) 11 24
def linksF (I : pmI) (w : Nat) (page : Int32) : Int32 := if 0 ≤ page ∧ page < I w 2 then I (w + 1) (tn page) else 0
def targetF (I : pmI) (w : Nat) (page j : Int32) : Int32 := if 0 ≤ j ∧ j < linksF I w page then I (w + 2) (3 * tn page + tn j) else -1000000
set_option maxHeartbeats 1000000 in
set_option maxRecDepth 20000 in
theorem k_X8_hasPage {E : pmE} {d : Nat} {S : pmS} {I : pmI} {P : pmP} {R : Option Value → pmS → pmI → pmP → Prop} {w : Nat} {page : Int32} (ho : OB S w 8) (h1 : 0 ≤ page ∧ page < I w 2 → R (some (.int 1)) S I P) (h0 : ¬ (0 ≤ page ∧ page < I w 2) → R (some (.int 0)) S I P) : pmX E d 0 0 yX8_hasPage [rr E w, .int page] S I P R := by
  refine pm_of (by decide) cd_X8_hasPage (by decide) (by decide) (Nat.le_of_ble_eq_true rfl) ?_
  intro C G hq
  refine z_iload_n G dX8_hasPage_0 rfl ?_
  refine z_if_lt G 16 dX8_hasPage_1 (by decide) (fun b1 => ?_) (fun b1 => ?_)
  · refine z_iconst G (v := 0) dX8_hasPage_16 (by decide) ?_
    exact z_zret G hq dX8_hasPage_17 rfl (h0 (fun q => by simp only [ti_lt, ti_le, Int32.reduceToInt] at *; omega))
  · refine z_iload_n G dX8_hasPage_4 rfl ?_
    refine z_aload_n G dX8_hasPage_5 rfl ?_
    refine z_getI G fl_X8_18 rfl dX8_hasPage_6 (by assumption) ?_
    refine z_icmp_ge G 16 dX8_hasPage_9 (by decide) (fun b9 => ?_) (fun b9 => ?_)
    · refine z_iconst G (v := 0) dX8_hasPage_16 (by decide) ?_
      exact z_zret G hq dX8_hasPage_17 rfl (h0 (fun q => by simp only [ti_lt, ti_le, Int32.reduceToInt] at *; omega))
    · refine z_iconst G (v := 1) dX8_hasPage_12 (by decide) ?_
      refine z_goto G 17 dX8_hasPage_13 (by decide) ?_
      exact z_zret G hq dX8_hasPage_17 rfl (h1 (by simp only [ti_lt, ti_le, Int32.reduceToInt] at *; omega))
set_option maxHeartbeats 1000000 in
set_option maxRecDepth 20000 in
theorem k_X8_linksOf {E : pmE} {d : Nat} {S : pmS} {I : pmI} {P : pmP} {R : Option Value → pmS → pmI → pmP → Prop} {w : Nat} {page : Int32} (hW : WebG S P w) (h8 : (I w 2).toInt ≤ 8) (h : R (some (.int (linksF I w page))) S I P) : pmX E (d + 1) 0 0 yX8_linksOf [rr E w, .int page] S I P R := by
  refine pm_of (by decide) cd_X8_linksOf (by decide) (by decide) (Nat.le_of_ble_eq_true rfl) ?_
  intro C G hq
  obtain ⟨g1, g2, g3, g4, g5⟩ := hW
  refine z_aload_n G dX8_linksOf_0 rfl ?_
  refine z_iload_n G dX8_linksOf_1 rfl ?_
  refine z_V G lk_X8_28 dX8_linksOf_2 [_] rfl rfl rfl (Nat.le_of_ble_eq_true rfl) ⟨Nat.le_refl _, Nat.le_refl _⟩ (by assumption) ?_
  refine k_X8_hasPage (by assumption) ?_ ?_
  · intro hc
    refine z_if_eq G 17 dX8_linksOf_5 (by decide) (fun c => absurd c (by decide)) (fun _ => ?_)
    refine z_aload_n G dX8_linksOf_8 rfl ?_
    refine z_getR G fl_X8_9 rfl dX8_linksOf_9 (by assumption) (by assumption) ?_
    refine z_iload_n G dX8_linksOf_12 rfl ?_
    refine z_iald G (tn page) dX8_linksOf_13 (by assumption) (tn_of (by simp only [ti_lt, ti_le, Int32.reduceToInt] at hc; omega)) (by unfold tn; simp only [ti_lt, ti_le, Int32.reduceToInt] at hc; omega) ?_
    refine z_goto G 18 dX8_linksOf_14 (by decide) ?_
    exact z_iret G hq dX8_linksOf_18 (by simpa only [linksF, hc, if_true, if_false, and_self] using h)
  · intro hc
    refine z_if_eq G 17 dX8_linksOf_5 (by decide) (fun _ => ?_) (fun c => absurd c (by decide))
    refine z_iconst G (v := 0) dX8_linksOf_17 (by decide) ?_
    exact z_iret G hq dX8_linksOf_18 (by simpa only [linksF, hc, if_true, if_false, and_self] using h)
set_option maxHeartbeats 1000000 in
set_option maxRecDepth 20000 in
theorem k_X10_in {E : pmE} {d : Nat} {S : pmS} {I : pmI} {P : pmP} {R : Option Value → pmS → pmI → pmP → Prop} {v lo hi : Int32} (h1 : lo ≤ v ∧ v ≤ hi → R (some (.int 1)) S I P) (h0 : ¬ (lo ≤ v ∧ v ≤ hi) → R (some (.int 0)) S I P) : pmX E d 0 0 yX10_in [.int v, .int lo, .int hi] S I P R := by
  refine pm_of (by decide) cd_X10_in (by decide) (by decide) (Nat.le_of_ble_eq_true rfl) ?_
  intro C G hq
  refine z_iload_n G dX10_in_0 rfl ?_
  refine z_iload_n G dX10_in_1 rfl ?_
  refine z_icmp_lt G 14 dX10_in_2 (by decide) (fun b2 => ?_) (fun b2 => ?_)
  · refine z_iconst G (v := 0) dX10_in_14 (by decide) ?_
    exact z_zret G hq dX10_in_15 rfl (h0 (fun q => by simp only [ti_lt, ti_le] at *; omega))
  · refine z_iload_n G dX10_in_5 rfl ?_
    refine z_iload_n G dX10_in_6 rfl ?_
    refine z_icmp_gt G 14 dX10_in_7 (by decide) (fun b7 => ?_) (fun b7 => ?_)
    · refine z_iconst G (v := 0) dX10_in_14 (by decide) ?_
      exact z_zret G hq dX10_in_15 rfl (h0 (fun q => by simp only [ti_lt, ti_le] at *; omega))
    · refine z_iconst G (v := 1) dX10_in_10 (by decide) ?_
      refine z_goto G 15 dX10_in_11 (by decide) ?_
      exact z_zret G hq dX10_in_15 rfl (h1 (by simp only [ti_lt, ti_le] at *; omega))
set_option maxHeartbeats 1000000 in
set_option maxRecDepth 20000 in
theorem k_X10_shows {E : pmE} {d : Nat} {S : pmS} {I : pmI} {P : pmP} {R : Option Value → pmS → pmI → pmP → Prop} {a t s : Nat} {tab : Int32} (ho : AR S a 11 124) (ht : tab.toInt = (t : Int)) (h5 : t < 5) (hs : (I a (47 + 10 * t)).toInt = (s : Int)) (h6 : s < 6) (h : R (some (.int (I a (48 + 10 * t + s)))) S I P) : pmX E d 0 0 yX10_shows [rr E a, .int tab] S I P R := by
  refine pm_of (by decide) cd_X10_shows (by decide) (by decide) (Nat.le_of_ble_eq_true rfl) ?_
  intro C G hq
  refine z_bipush G (v := 44) dX10_shows_0 (by decide) ?_
  refine z_bipush G (v := 10) dX10_shows_2 (by decide) ?_
  refine z_iload_n G dX10_shows_4 rfl ?_
  refine z_imul G dX10_shows_5 ?_
  refine z_iadd G dX10_shows_6 ?_
  refine z_istore_n G dX10_shows_7 (Nat.le_of_ble_eq_true rfl) rfl ?_
  refine z_aload_n G dX10_shows_8 rfl ?_
  refine z_iload_n G dX10_shows_9 rfl ?_
  refine z_iconst G (v := 4) dX10_shows_10 (by decide) ?_
  refine z_iadd G dX10_shows_11 ?_
  refine z_aload_n G dX10_shows_12 rfl ?_
  refine z_iload_n G dX10_shows_13 rfl ?_
  refine z_iconst G (v := 3) dX10_shows_14 (by decide) ?_
  refine z_iadd G dX10_shows_15 ?_
  refine z_iald G (47 + 10 * t) dX10_shows_16 (by assumption) (by simp only [ti_add, ti_mul, ht, Int32.reduceToInt]; omega) (by omega) ?_
  refine z_iadd G dX10_shows_17 ?_
  refine z_iald G (48 + 10 * t + s) dX10_shows_18 (by assumption) (by simp only [ti_add, ti_mul, ht, hs, Int32.reduceToInt]; omega) (by omega) ?_
  exact z_iret G hq dX10_shows_19 (h)
