set_option maxHeartbeats 1000000 in
set_option maxRecDepth 20000 in
theorem k_X8_withNeighbours {E : pmE} {d : Nat} {S : pmS} {I : pmI} {P : pmP} {R : Option Value → pmS → pmI → pmP → Prop} {g n : Nat} {w : Nat → Int32} (hG : WebG S P g) (hr : WR I g w n) (hn : (w 0).toInt = (n : Int)) (h8 : n ≤ 8) (hv : VL w n) {s : Nat → Prop} {x : Int32} (hx : ∀ q, q < 8 → (bt x q ↔ s q)) (h : ∀ v : Int32, (∀ q, q < 8 → (bt v q ↔ s q ∨ ∃ p j, p < n ∧ j < tn (w (4 + 5 * p)) ∧ s p ∧ tn (w (5 + 5 * p + j)) = q)) → R (some (.int v)) S I P) : pmX E (d + 3) 0 0 yX8_withNeighbours [rr E g, .int x] S I P R := by
  refine pm_of (by decide) cd_X8_withNeighbours (by decide) (by decide) (Nat.le_of_ble_eq_true rfl) ?_
  intro C G hq
  obtain ⟨g1, g2, g3, g4, g5⟩ := id hG
  have hsz : (I g 2).toInt = (n : Int) := by rw [hr.1]; exact hn
  have loop : ∀ (r p : Nat) (u y : Int32) (o9 : Option Value), u.toInt = (p : Int) → p + r = n → (∀ q, q < 8 → (bt y q ↔ s q ∨ EW w n s p 0 q)) → pmZ E C 4 [some (rr E g), some (.int x), some (.int y), some (.int u), o9] [] S I P 0 0 := by
    intro r
    induction r with
    | zero =>
      intro p u y o9 hu hrn hy
      obtain rfl : p = n := by omega
      refine z_iload_n G dX8_withNeighbours_4 rfl ?_
      refine z_aload_n G dX8_withNeighbours_5 rfl ?_
      refine z_getI G fl_X8_18 rfl dX8_withNeighbours_6 (by assumption) ?_
      refine z_icmp_ge G 57 dX8_withNeighbours_9 (by decide) (fun _ => ?_) (fun c => absurd c (fun z => z (by simp (disch := omega) only [iN_lit, iN_add, iN_sub, iN_mul, iN_an, iN_le, iN_lt, iN_eq, iN_of hu, iN_of hsz] <;> omega)))
      refine z_iload_n G dX8_withNeighbours_57 rfl ?_
      exact z_iret G hq dX8_withNeighbours_58 (h y (fun q hq => by rw [hy q hq, EW_n]))
    | succ r ih =>
      intro p u y o9 hu hrn hy
      have hpn : p < n := by omega
      obtain ⟨c, c1, c2, c3, c4⟩ := hv p hpn
      have ec : tn (w (4 + 5 * p)) = c := by unfold tn; omega
      have loop2 : ∀ (r2 j : Nat) (y u2 : Int32), u2.toInt = (j : Int) → j + r2 = c → (∀ q, q < 8 → (bt y q ↔ s q ∨ EW w n s p j q)) → pmZ E C 15 [some (rr E g), some (.int x), some (.int y), some (.int u), some (.int u2)] [] S I P 0 0 := by
        intro r2
        induction r2 with
        | zero =>
          intro j y u2 hu2 hr2 hy2
          obtain rfl : j = c := by omega
          refine z_iload G dX8_withNeighbours_15 rfl ?_
          refine z_aload_n G dX8_withNeighbours_17 rfl ?_
          refine z_iload_n G dX8_withNeighbours_18 rfl ?_
          refine z_V G lk_X8_32 dX8_withNeighbours_19 [_] rfl rfl rfl (Nat.le_of_ble_eq_true rfl) ⟨Nat.le_refl _, Nat.le_refl _⟩ (by assumption) ?_
          refine k_X8_linksOf hG hr hn h8 hu hpn ?_
          refine z_icmp_ge G 51 dX8_withNeighbours_22 (by decide) (fun _ => ?_) (fun c => absurd c (fun z => z (by simp (disch := omega) only [iN_lit, iN_add, iN_sub, iN_mul, iN_an, iN_le, iN_lt, iN_eq, iN_of hu2, iN_of c1] <;> omega)))
          refine z_iinc G (v := 1) dX8_withNeighbours_51 (by decide) rfl rfl ?_
          refine z_goto G 4 dX8_withNeighbours_54 (by decide) ?_
          exact ih (p + 1) (u + 1) y _ (by simp (disch := omega) only [iN_lit, iN_add, iN_sub, iN_mul, iN_an, iN_of hu]; exact iN_ti2 (by omega) (by omega)) (by omega) (fun q hq => by rw [hy2 q hq, EW_next ec])
        | succ r2 ih2 =>
          intro j y u2 hu2 hr2 hy2
          obtain ⟨tq, t1, t2⟩ := c4 j (by omega)
          have et : tn (w (5 + 5 * p + j)) = tq := by unfold tn; omega
          refine z_iload G dX8_withNeighbours_15 rfl ?_
          refine z_aload_n G dX8_withNeighbours_17 rfl ?_
          refine z_iload_n G dX8_withNeighbours_18 rfl ?_
          refine z_V G lk_X8_32 dX8_withNeighbours_19 [_] rfl rfl rfl (Nat.le_of_ble_eq_true rfl) ⟨Nat.le_refl _, Nat.le_refl _⟩ (by assumption) ?_
          refine k_X8_linksOf hG hr hn h8 hu hpn ?_
          refine z_icmp_ge G 51 dX8_withNeighbours_22 (by decide) (fun c => absurd c (by simp (disch := omega) only [iN_lit, iN_add, iN_sub, iN_mul, iN_an, iN_le, iN_lt, iN_eq, iN_of hu2, iN_of c1]; omega)) (fun _ => ?_)
          refine z_iload_n G dX8_withNeighbours_25 rfl ?_
          refine z_iload_n G dX8_withNeighbours_26 rfl ?_
          refine z_ishr G dX8_withNeighbours_27 ?_
          refine z_iconst G (v := 1) dX8_withNeighbours_28 (by decide) ?_
          refine z_iand G dX8_withNeighbours_29 ?_
          rw [iN_of hu]
          refine z_if_eq G 45 dX8_withNeighbours_30 (by decide) (fun b30 => ?_) (fun b30 => ?_)
          · have hs : ¬ s p := fun z => (bt_ne (by omega)).mpr ((hx p (by omega)).mpr z) b30
            refine z_iinc G (v := 1) dX8_withNeighbours_45 (by decide) rfl rfl ?_
            refine z_goto G 15 dX8_withNeighbours_48 (by decide) ?_
            exact (iN_of hu) ▸ ih2 (j + 1) y _ (by simp (disch := omega) only [iN_lit, iN_add, iN_sub, iN_mul, iN_an, iN_of hu2]; exact iN_ti2 (by omega) (by omega)) (by omega) (fun q hq => by rw [hy2 q hq, EW_F hs])
          · have hs : s p := (hx p (by omega)).mp ((bt_ne (by omega)).mp b30)
            refine z_iload_n G dX8_withNeighbours_33 rfl ?_
            refine z_iconst G (v := 1) dX8_withNeighbours_34 (by decide) ?_
            refine z_aload_n G dX8_withNeighbours_35 rfl ?_
            refine z_iload_n G dX8_withNeighbours_36 rfl ?_
            refine z_iload G dX8_withNeighbours_37 rfl ?_
            refine z_V G lk_X8_43 dX8_withNeighbours_39 [_, _] rfl rfl rfl (Nat.le_of_ble_eq_true rfl) ⟨Nat.le_refl _, Nat.le_refl _⟩ (by assumption) ?_
            refine k_X8_target hG hr hn h8 (iN_ti (by omega)) hpn c1 c3 (fun jn e1 e2 => ?_) (fun z => absurd ⟨by omega, by omega⟩ z)
            obtain rfl : jn = j := by omega
            rw [iN_of t1]
            refine z_ishl G dX8_withNeighbours_42 ?_
            refine z_ior G dX8_withNeighbours_43 ?_
            refine z_istore_n G dX8_withNeighbours_44 (Nat.le_of_ble_eq_true rfl) rfl ?_
            refine z_iinc G (v := 1) dX8_withNeighbours_45 (by decide) rfl rfl ?_
            refine z_goto G 15 dX8_withNeighbours_48 (by decide) ?_
            exact (iN_of hu) ▸ ih2 (jn + 1) _ _ (by simp (disch := omega) only [iN_lit, iN_add, iN_sub, iN_mul, iN_an, iN_of hu2]; exact iN_ti2 (by omega) (by omega)) (by omega) (fun q hq => by rw [bt_or, hy2 q hq, bt_one (by omega) (by omega), EW_T hpn (by omega) hs, et, or_assoc])
      refine z_iload_n G dX8_withNeighbours_4 rfl ?_
      refine z_aload_n G dX8_withNeighbours_5 rfl ?_
      refine z_getI G fl_X8_18 rfl dX8_withNeighbours_6 (by assumption) ?_
      refine z_icmp_ge G 57 dX8_withNeighbours_9 (by decide) (fun c => absurd c (by simp (disch := omega) only [iN_lit, iN_add, iN_sub, iN_mul, iN_an, iN_le, iN_lt, iN_eq, iN_of hu, iN_of hsz]; omega)) (fun _ => ?_)
      refine z_iconst G (v := 0) dX8_withNeighbours_12 (by decide) ?_
      refine z_istore G dX8_withNeighbours_13 (Nat.le_of_ble_eq_true rfl) rfl ?_
      exact loop2 c 0 y 0 rfl (by omega) hy
  refine z_iload_n G dX8_withNeighbours_0 rfl ?_
  refine z_istore_n G dX8_withNeighbours_1 (Nat.le_of_ble_eq_true rfl) rfl ?_
  refine z_iconst G (v := 0) dX8_withNeighbours_2 (by decide) ?_
  refine z_istore_n G dX8_withNeighbours_3 (Nat.le_of_ble_eq_true rfl) rfl ?_
  exact loop n 0 0 x _ rfl (by omega) (fun q hq => by rw [hx q hq]; exact ⟨Or.inl, fun z => z.elim id (fun z => absurd z EW_0)⟩)
set_option maxHeartbeats 1000000 in
set_option maxRecDepth 20000 in
theorem k_X8_distance {E : pmE} {d : Nat} {S : pmS} {I : pmI} {P : pmP} {R : Option Value → pmS → pmI → pmP → Prop} {g n : Nat} {w : Nat → Int32} (hG : WebG S P g) (hr : WR I g w n) (hn : (w 0).toInt = (n : Int)) (h8 : n ≤ 8) (hv : VL w n) {f to : Nat} {fr tt : Int32} (hf : fr.toInt = (f : Int)) (hfn : f < n) (ht : tt.toInt = (to : Int)) (htn : to < n) (h : R (some (.int (farI w n f to))) S I P) : pmX E (d + 4) 0 0 yX8_distance [rr E g, .int fr, .int tt] S I P R := by
  refine pm_of (by decide) cd_X8_distance (by decide) (by decide) (Nat.le_of_ble_eq_true rfl) ?_
  intro C G hq
  obtain ⟨g1, g2, g3, g4, g5⟩ := id hG
  have hsz : (I g 2).toInt = (n : Int) := by rw [hr.1]; exact hn
  obtain rfl := iN_of hf
  obtain rfl := iN_of ht
  have loop : ∀ (r k : Nat) (u y : Int32), u.toInt = (k : Int) → k + r = n → (∀ q, q < 8 → (bt y q ↔ RC w n f k q)) → (∀ e, e < k → ¬ RC w n f e to) → pmZ E C 7 [some (rr E g), some (.int (iN f)), some (.int (iN to)), some (.int y), some (.int u)] [] S I P 0 0 := by
    intro r
    induction r with
    | zero =>
      intro k u y hu hrn hy hno
      obtain rfl : k = n := by omega
      refine z_iload G dX8_distance_7 rfl ?_
      refine z_aload_n G dX8_distance_9 rfl ?_
      refine z_getI G fl_X8_18 rfl dX8_distance_10 (by assumption) ?_
      refine z_icmp_ge G 39 dX8_distance_13 (by decide) (fun _ => ?_) (fun c => absurd c (fun z => z (by simp (disch := omega) only [iN_lit, iN_add, iN_sub, iN_mul, iN_an, iN_le, iN_lt, iN_eq, iN_of hu, iN_of hsz] <;> omega)))
      refine z_ldc G ct_X8_36 dX8_distance_39 ?_
      exact z_iret G hq dX8_distance_41 (by rw [farI_no (fun e he => hno e (he.ltn hv hfn) he.1)] at h; exact h)
    | succ r ih =>
      intro k u y hu hrn hy hno
      refine z_iload G dX8_distance_7 rfl ?_
      refine z_aload_n G dX8_distance_9 rfl ?_
      refine z_getI G fl_X8_18 rfl dX8_distance_10 (by assumption) ?_
      refine z_icmp_ge G 39 dX8_distance_13 (by decide) (fun c => absurd c (by simp (disch := omega) only [iN_lit, iN_add, iN_sub, iN_mul, iN_an, iN_le, iN_lt, iN_eq, iN_of hu, iN_of hsz]; omega)) (fun _ => ?_)
      refine z_iload_n G dX8_distance_16 rfl ?_
      refine z_iload_n G dX8_distance_17 rfl ?_
      refine z_ishr G dX8_distance_18 ?_
      refine z_iconst G (v := 1) dX8_distance_19 (by decide) ?_
      refine z_iand G dX8_distance_20 ?_
      refine z_if_eq G 27 dX8_distance_21 (by decide) (fun b21 => ?_) (fun b21 => ?_)
      · refine z_aload_n G dX8_distance_27 rfl ?_
        refine z_iload_n G dX8_distance_28 rfl ?_
        refine z_V G lk_X8_46 dX8_distance_29 [_] rfl rfl rfl (Nat.le_of_ble_eq_true rfl) ⟨Nat.le_refl _, Nat.le_refl _⟩ (by assumption) ?_
        refine k_X8_withNeighbours hG hr hn h8 hv hy (fun v hv2 => ?_)
        refine z_istore_n G dX8_distance_32 (Nat.le_of_ble_eq_true rfl) rfl ?_
        refine z_iinc G (v := 1) dX8_distance_33 (by decide) rfl rfl ?_
        refine z_goto G 7 dX8_distance_36 (by decide) ?_
        exact ih (k + 1) _ v (by simp (disch := omega) only [iN_lit, iN_add, iN_sub, iN_mul, iN_an, iN_of hu]; exact iN_ti2 (by omega) (by omega)) (by omega) hv2 (fun e he hR => by by_cases hek : e = k; exact (bt_ne (by omega)).mpr ((hy to (by omega)).mpr (hek ▸ hR)) b21; exact hno e (by omega) hR)
      · refine z_iload G dX8_distance_24 rfl ?_
        exact z_iret G hq dX8_distance_26 (by rw [farI_is (e := k) ⟨(hy to (by omega)).mp ((bt_ne (by omega)).mp b21), hno⟩, ← iN_of hu] at h; exact h)
  refine z_iconst G (v := 1) dX8_distance_0 (by decide) ?_
  refine z_iload_n G dX8_distance_1 rfl ?_
  refine z_ishl G dX8_distance_2 ?_
  refine z_istore_n G dX8_distance_3 (Nat.le_of_ble_eq_true rfl) rfl ?_
  refine z_iconst G (v := 0) dX8_distance_4 (by decide) ?_
  refine z_istore G dX8_distance_5 (Nat.le_of_ble_eq_true rfl) rfl ?_
  exact loop n 0 0 _ rfl (by omega) (fun q hq => bt_one (by omega) (by omega)) (fun e he => absurd he (by omega))
set_option maxHeartbeats 1000000 in
set_option maxRecDepth 20000 in
theorem k_X8_circle {E : pmE} {d : Nat} {S : pmS} {I : pmI} {P : pmP} {R : Option Value → pmS → pmI → pmP → Prop} {g n : Nat} {w : Nat → Int32} (hG : WebG S P g) (hr : WR I g w n) (hn : (w 0).toInt = (n : Int)) (h8 : n ≤ 8) (hv : VL w n) {pg : Nat} {page : Int32} (hp : page.toInt = (pg : Int)) (hpn : pg < n) (h : R (some (.int (bitsI (fun q => ¬ farI w n pg q = -1000000 ∧ ¬ farI w n q pg = -1000000) n))) S I P) : pmX E (d + 5) 0 0 yX8_circle [rr E g, .int page] S I P R := by
  refine pm_of (by decide) cd_X8_circle (by decide) (by decide) (Nat.le_of_ble_eq_true rfl) ?_
  intro C G hq
  obtain ⟨g1, g2, g3, g4, g5⟩ := id hG
  have hsz : (I g 2).toInt = (n : Int) := by rw [hr.1]; exact hn
  have loop : ∀ (r k : Nat) (u : Int32), u.toInt = (k : Int) → k + r = n → pmZ E C 4 [some (rr E g), some (.int page), some (.int (bitsI (fun q => ¬ farI w n pg q = -1000000 ∧ ¬ farI w n q pg = -1000000) k)), some (.int u)] [] S I P 0 0 := by
    intro r
    induction r with
    | zero =>
      intro k u hu hrn
      obtain rfl : k = n := by omega
      refine z_iload_n G dX8_circle_4 rfl ?_
      refine z_aload_n G dX8_circle_5 rfl ?_
      refine z_getI G fl_X8_18 rfl dX8_circle_6 (by assumption) ?_
      refine z_icmp_ge G 46 dX8_circle_9 (by decide) (fun _ => ?_) (fun c => absurd c (fun z => z (by simp (disch := omega) only [iN_lit, iN_add, iN_sub, iN_mul, iN_an, iN_le, iN_lt, iN_eq, iN_of hu, iN_of hsz] <;> omega)))
      refine z_iload_n G dX8_circle_46 rfl ?_
      exact z_iret G hq dX8_circle_47 (h)
    | succ r ih =>
      intro k u hu hrn
      refine z_iload_n G dX8_circle_4 rfl ?_
      refine z_aload_n G dX8_circle_5 rfl ?_
      refine z_getI G fl_X8_18 rfl dX8_circle_6 (by assumption) ?_
      refine z_icmp_ge G 46 dX8_circle_9 (by decide) (fun c => absurd c (by simp (disch := omega) only [iN_lit, iN_add, iN_sub, iN_mul, iN_an, iN_le, iN_lt, iN_eq, iN_of hu, iN_of hsz]; omega)) (fun _ => ?_)
      refine z_aload_n G dX8_circle_12 rfl ?_
      refine z_iload_n G dX8_circle_13 rfl ?_
      refine z_iload_n G dX8_circle_14 rfl ?_
      refine z_V G lk_X8_49 dX8_circle_15 [_, _] rfl rfl rfl (Nat.le_of_ble_eq_true rfl) ⟨Nat.le_refl _, Nat.le_refl _⟩ (by assumption) ?_
      refine k_X8_distance hG hr hn h8 hv hp hpn hu (by omega) ?_
      refine z_ldc G ct_X8_36 dX8_circle_18 ?_
      refine z_icmp_eq G 40 dX8_circle_20 (by decide) (fun b20 => ?_) (fun b20 => ?_)
      · refine z_iinc G (v := 1) dX8_circle_40 (by decide) rfl rfl ?_
        refine z_goto G 4 dX8_circle_43 (by decide) ?_
        refine z_eq rfl ?_ rfl rfl rfl (ih (k + 1) (u + 1) (by simp (disch := omega) only [iN_lit, iN_add, iN_sub, iN_mul, iN_an, iN_of hu]; exact iN_ti2 (by omega) (by omega)) (by omega))
        show _ = [some (rr E g), some (.int page), some (.int (@ite Int32 (¬ farI w n pg k = -1000000 ∧ ¬ farI w n k pg = -1000000) (Classical.propDecidable _) (bitsI (fun q => ¬ farI w n pg q = -1000000 ∧ ¬ farI w n q pg = -1000000) k ||| (1 <<< (iN k &&& 31))) (bitsI (fun q => ¬ farI w n pg q = -1000000 ∧ ¬ farI w n q pg = -1000000) k))), some (.int (u + 1))]
        rw [if_neg (fun z => z.1 b20)]
        all_goals rfl
      · refine z_aload_n G dX8_circle_23 rfl ?_
        refine z_iload_n G dX8_circle_24 rfl ?_
        refine z_iload_n G dX8_circle_25 rfl ?_
        refine z_V G lk_X8_49 dX8_circle_26 [_, _] rfl rfl rfl (Nat.le_of_ble_eq_true rfl) ⟨Nat.le_refl _, Nat.le_refl _⟩ (by assumption) ?_
        refine k_X8_distance hG hr hn h8 hv hu (by omega) hp hpn ?_
        refine z_ldc G ct_X8_36 dX8_circle_29 ?_
        refine z_icmp_eq G 40 dX8_circle_31 (by decide) (fun b31 => ?_) (fun b31 => ?_)
        · refine z_iinc G (v := 1) dX8_circle_40 (by decide) rfl rfl ?_
          refine z_goto G 4 dX8_circle_43 (by decide) ?_
          refine z_eq rfl ?_ rfl rfl rfl (ih (k + 1) (u + 1) (by simp (disch := omega) only [iN_lit, iN_add, iN_sub, iN_mul, iN_an, iN_of hu]; exact iN_ti2 (by omega) (by omega)) (by omega))
          show _ = [some (rr E g), some (.int page), some (.int (@ite Int32 (¬ farI w n pg k = -1000000 ∧ ¬ farI w n k pg = -1000000) (Classical.propDecidable _) (bitsI (fun q => ¬ farI w n pg q = -1000000 ∧ ¬ farI w n q pg = -1000000) k ||| (1 <<< (iN k &&& 31))) (bitsI (fun q => ¬ farI w n pg q = -1000000 ∧ ¬ farI w n q pg = -1000000) k))), some (.int (u + 1))]
          rw [if_neg (fun z => z.2 b31)]
          all_goals rfl
        · refine z_iload_n G dX8_circle_34 rfl ?_
          refine z_iconst G (v := 1) dX8_circle_35 (by decide) ?_
          refine z_iload_n G dX8_circle_36 rfl ?_
          refine z_ishl G dX8_circle_37 ?_
          refine z_ior G dX8_circle_38 ?_
          refine z_istore_n G dX8_circle_39 (Nat.le_of_ble_eq_true rfl) rfl ?_
          refine z_iinc G (v := 1) dX8_circle_40 (by decide) rfl rfl ?_
          refine z_goto G 4 dX8_circle_43 (by decide) ?_
          refine z_eq rfl ?_ rfl rfl rfl (ih (k + 1) (u + 1) (by simp (disch := omega) only [iN_lit, iN_add, iN_sub, iN_mul, iN_an, iN_of hu]; exact iN_ti2 (by omega) (by omega)) (by omega))
          show _ = [some (rr E g), some (.int page), some (.int (@ite Int32 (¬ farI w n pg k = -1000000 ∧ ¬ farI w n k pg = -1000000) (Classical.propDecidable _) (bitsI (fun q => ¬ farI w n pg q = -1000000 ∧ ¬ farI w n q pg = -1000000) k ||| (1 <<< (iN k &&& 31))) (bitsI (fun q => ¬ farI w n pg q = -1000000 ∧ ¬ farI w n q pg = -1000000) k))), some (.int (u + 1))]
          rw [if_pos ⟨b20, b31⟩, ← iN_of hu]
          all_goals rfl
  refine z_iconst G (v := 0) dX8_circle_0 (by decide) ?_
  refine z_istore_n G dX8_circle_1 (Nat.le_of_ble_eq_true rfl) rfl ?_
  refine z_iconst G (v := 0) dX8_circle_2 (by decide) ?_
  refine z_istore_n G dX8_circle_3 (Nat.le_of_ble_eq_true rfl) rfl ?_
  exact loop n 0 0 rfl (by omega)
set_option maxHeartbeats 1000000 in
set_option maxRecDepth 20000 in
theorem k_X9_far {E : pmE} {d : Nat} {S : pmS} {I : pmI} {P : pmP} {R : Option Value → pmS → pmI → pmP → Prop} (hX : XG S P) {n : Nat} {w : Nat → Int32} (hW : WR I 27 w n) (hn : (w 0).toInt = (n : Int)) (hn8 : n ≤ 8) (hv : VL w n) {fr tt : Int32} (hb : (¬ ∃ f q : Nat, fr.toInt = (f : Int) ∧ f < n ∧ tt.toInt = (q : Int) ∧ q < n) → R (some (.int (-1000001))) S I P) (h : ∀ f q : Nat, fr.toInt = (f : Int) → f < n → tt.toInt = (q : Int) → q < n → R (some (.int (farI w n f q))) S I P) : pmX E (d + 5) 0 0 yX9_far [rr E 0, .int fr, .int tt] S I P R := by
  refine pm_of (by decide) cd_X9_far (by decide) (by decide) (Nat.le_of_ble_eq_true rfl) ?_
  intro C G hq
  obtain ⟨⟨a0, a1, a2, a3, a4, a5, a6, a7, a8⟩, hRG, hRdG, hWG, hDG, ⟨z1, z2, z3, z4⟩, hIG, hFG, hAG⟩ := id hX
  refine z_aload_n G dX9_far_0 rfl ?_
  refine z_getR G fl_X9_25 rfl dX9_far_1 (by assumption) (by assumption) ?_
  refine z_iload_n G dX9_far_4 rfl ?_
  refine z_V G lk_X9_179 dX9_far_5 [_] rfl rfl rfl (Nat.le_of_ble_eq_true rfl) ⟨Nat.le_refl _, Nat.le_refl _⟩ hWG.1 ?_
  refine k_X8_hasPage hWG.1 (by rw [hW.1]; exact hn) ?_ ?_
  · intro f hf1 hf2
    refine z_if_eq G 22 dX9_far_8 (by decide) (fun c => absurd c (by decide)) (fun _ => ?_)
    refine z_aload_n G dX9_far_11 rfl ?_
    refine z_getR G fl_X9_25 rfl dX9_far_12 (by assumption) (by assumption) ?_
    refine z_iload_n G dX9_far_15 rfl ?_
    refine z_V G lk_X9_179 dX9_far_16 [_] rfl rfl rfl (Nat.le_of_ble_eq_true rfl) ⟨Nat.le_refl _, Nat.le_refl _⟩ hWG.1 ?_
    refine k_X8_hasPage hWG.1 (by rw [hW.1]; exact hn) ?_ ?_
    · intro q hq1 hq2
      refine z_if_ne G 25 dX9_far_19 (by decide) (fun _ => ?_) (fun c => absurd c (by decide))
      refine z_aload_n G dX9_far_25 rfl ?_
      refine z_getR G fl_X9_25 rfl dX9_far_26 (by assumption) (by assumption) ?_
      refine z_iload_n G dX9_far_29 rfl ?_
      refine z_iload_n G dX9_far_30 rfl ?_
      refine z_V G lk_X9_229 dX9_far_31 [_, _] rfl rfl rfl (Nat.le_of_ble_eq_true rfl) ⟨Nat.le_refl _, Nat.le_refl _⟩ hWG.1 ?_
      refine k_X8_distance hWG hW hn hn8 hv hf1 hf2 hq1 hq2 ?_
      exact z_iret G hq dX9_far_34 (h f q hf1 hf2 hq1 hq2)
    · intro hno
      refine z_if_ne G 25 dX9_far_19 (by decide) (fun c => absurd c (by decide)) (fun _ => ?_)
      refine z_ldc G ct_X9_73 dX9_far_22 ?_
      exact z_iret G hq dX9_far_24 (hb (fun ⟨f, q, _, _, q1, q2⟩ => hno ⟨q, q1, q2⟩))
  · intro hno
    refine z_if_eq G 22 dX9_far_8 (by decide) (fun _ => ?_) (fun c => absurd c (by decide))
    refine z_ldc G ct_X9_73 dX9_far_22 ?_
    exact z_iret G hq dX9_far_24 (hb (fun ⟨f, q, q1, q2, _⟩ => hno ⟨f, q1, q2⟩))
set_option maxHeartbeats 1000000 in
set_option maxRecDepth 20000 in
theorem k_X9_round {E : pmE} {d : Nat} {S : pmS} {I : pmI} {P : pmP} {R : Option Value → pmS → pmI → pmP → Prop} (hX : XG S P) {n : Nat} {w : Nat → Int32} (hW : WR I 27 w n) (hn : (w 0).toInt = (n : Int)) (hn8 : n ≤ 8) (hv : VL w n) {page : Int32} (hb : (¬ ∃ q : Nat, page.toInt = (q : Int) ∧ q < n) → R (some (.int (-1000001))) S I P) (h : ∀ pg : Nat, page.toInt = (pg : Int) → pg < n → R (some (.int (bitsI (fun q => ¬ farI w n pg q = -1000000 ∧ ¬ farI w n q pg = -1000000) n))) S I P) : pmX E (d + 6) 0 0 yX9_round [rr E 0, .int page] S I P R := by
  refine pm_of (by decide) cd_X9_round (by decide) (by decide) (Nat.le_of_ble_eq_true rfl) ?_
  intro C G hq
  obtain ⟨⟨a0, a1, a2, a3, a4, a5, a6, a7, a8⟩, hRG, hRdG, hWG, hDG, ⟨z1, z2, z3, z4⟩, hIG, hFG, hAG⟩ := id hX
  refine z_aload_n G dX9_round_0 rfl ?_
  refine z_getR G fl_X9_25 rfl dX9_round_1 (by assumption) (by assumption) ?_
  refine z_iload_n G dX9_round_4 rfl ?_
  refine z_V G lk_X9_179 dX9_round_5 [_] rfl rfl rfl (Nat.le_of_ble_eq_true rfl) ⟨Nat.le_refl _, Nat.le_refl _⟩ hWG.1 ?_
  refine k_X8_hasPage hWG.1 (by rw [hW.1]; exact hn) ?_ ?_
  · intro q hq1 hq2
    refine z_if_eq G 22 dX9_round_8 (by decide) (fun c => absurd c (by decide)) (fun _ => ?_)
    refine z_aload_n G dX9_round_11 rfl ?_
    refine z_getR G fl_X9_25 rfl dX9_round_12 (by assumption) (by assumption) ?_
    refine z_iload_n G dX9_round_15 rfl ?_
    refine z_V G lk_X9_232 dX9_round_16 [_] rfl rfl rfl (Nat.le_of_ble_eq_true rfl) ⟨Nat.le_refl _, Nat.le_refl _⟩ hWG.1 ?_
    refine k_X8_circle hWG hW hn hn8 hv hq1 hq2 ?_
    refine z_goto G 24 dX9_round_19 (by decide) ?_
    exact z_iret G hq dX9_round_24 (h q hq1 hq2)
  · intro hno
    refine z_if_eq G 22 dX9_round_8 (by decide) (fun _ => ?_) (fun c => absurd c (by decide))
    refine z_ldc G ct_X9_73 dX9_round_22 ?_
    exact z_iret G hq dX9_round_24 (hb hno)
set_option maxHeartbeats 1000000 in
set_option maxRecDepth 20000 in
theorem k_X10_measures {E : pmE} {d : Nat} {S : pmS} {I : pmI} {P : pmP} {R : Option Value → pmS → pmI → pmP → Prop} {m : Nat} (hM : MG S P m) {n : Nat} {w : Nat → Int32} (hw : I (m + 6) = w) (hn : (w 0).toInt = (n : Int)) (hn8 : n ≤ 8) (hv : VL w n) {f : Nat} {fr : Int32} (hf : fr.toInt = (f : Int)) (hfn : f < n) (h : ∀ a, (∀ q, q < n → a q = farI w n f q) → R none S (va_up I (m + 12) a) P) : pmX E d 0 0 yX10_measures [rr E m, .int fr] S I P R := by
  refine pm_of (by decide) cd_X10_measures (by decide) (by decide) (Nat.le_of_ble_eq_true rfl) ?_
  intro C G hq
  obtain ⟨g0, ⟨r0, r1, r2, r3, r4, r5, r6, r7, r8, r9, r10, r11, r12, r13, r14⟩, ⟨s1, s2, s3, s4, s5, s6, s7, s8, s9, s10, s11, s12, s13, s14, s15⟩⟩ := id hM
  have hw2 : ∀ a, va_up I (m + 12) a (m + 6) = w := fun a => by rw [va_ne' (by omega), hw]
  have loop2 : ∀ (r k : Nat) (u : Int32) (a : Nat → Int32) (o3 o4 o5 : Option Value), u.toInt = (k : Int) → k + r = n → DA w n f k a → pmZ E C 37 [some (rr E m), some (.int fr), some (.int u), o3, o4, o5] [] S (va_up I (m + 12) a) P 0 0 := by
    intro r
    induction r with
    | zero =>
      intro k u a o3 o4 o5 hu hrn hA
      obtain rfl : k = n := by omega
      refine z_iload_n G dX10_measures_37 rfl ?_
      refine z_aload_n G dX10_measures_38 rfl ?_
      refine z_getR G fl_X10_25 rfl dX10_measures_39 (by assumption) (by assumption) ?_
      refine z_iconst G (v := 0) dX10_measures_42 (by decide) ?_
      refine z_iald G (0) dX10_measures_43 (by assumption) (rfl) (by omega) ?_
      rw [hw2 a]
      refine z_icmp_ge G 152 dX10_measures_44 (by decide) (fun _ => ?_) (fun c => absurd c (fun z => z (by simp (disch := omega) only [iN_lit, iN_add, iN_sub, iN_mul, iN_an, iN_le, iN_lt, iN_eq, iN_of hu, iN_of hn] <;> omega)))
      exact z_vret G hq dX10_measures_152 (h a (fun q hq => hA.far hv hfn hq))
    | succ r ih =>
      intro k u a o3 o4 o5 hu hrn hA
      have loop3 : ∀ (r3 p : Nat) (u3 : Int32) (a : Nat → Int32) (o4 o5 : Option Value), u3.toInt = (p : Int) → p + r3 = n → DB w n f k p 0 a → pmZ E C 49 [some (rr E m), some (.int fr), some (.int u), some (.int u3), o4, o5] [] S (va_up I (m + 12) a) P 0 0 := by
        intro r3
        induction r3 with
        | zero =>
          intro p u3 a o4 o5 hu3 hr3 hB
          obtain rfl : p = n := by omega
          refine z_iload_n G dX10_measures_49 rfl ?_
          refine z_aload_n G dX10_measures_50 rfl ?_
          refine z_getR G fl_X10_25 rfl dX10_measures_51 (by assumption) (by assumption) ?_
          refine z_iconst G (v := 0) dX10_measures_54 (by decide) ?_
          refine z_iald G (0) dX10_measures_55 (by assumption) (rfl) (by omega) ?_
          rw [hw2 a]
          refine z_icmp_ge G 146 dX10_measures_56 (by decide) (fun _ => ?_) (fun c => absurd c (fun z => z (by simp (disch := omega) only [iN_lit, iN_add, iN_sub, iN_mul, iN_an, iN_le, iN_lt, iN_eq, iN_of hu3, iN_of hn] <;> omega)))
          refine z_iinc G (v := 1) dX10_measures_146 (by decide) rfl rfl ?_
          refine z_goto G 37 dX10_measures_149 (by decide) ?_
          exact ih (k + 1) _ a _ _ _ (by simp (disch := omega) only [iN_lit, iN_add, iN_sub, iN_mul, iN_an, iN_of hu]; exact iN_ti2 (by omega) (by omega)) (by omega) hB.fin
        | succ r3 ih3 =>
          intro p u3 a o4 o5 hu3 hr3 hB
          have hpn : p < n := by omega
          obtain ⟨c, c1, c2, c3, c4⟩ := hv p hpn
          have ec : tn (w (4 + 5 * p)) = c := by unfold tn; omega
          have loop4 : ∀ (r4 j : Nat) (u4 : Int32) (a : Nat → Int32) (o5 : Option Value), u4.toInt = ((j + 1 : Nat) : Int) → j + r4 = c → DB w n f k p j a → pmZ E C 62 [some (rr E m), some (.int fr), some (.int u), some (.int u3), some (.int u4), o5] [] S (va_up I (m + 12) a) P 0 0 := by
            intro r4
            induction r4 with
            | zero =>
              intro j u4 a o5 hu4 hr4 hB
              obtain rfl : j = c := by omega
              refine z_iload G dX10_measures_62 rfl ?_
              refine z_aload_n G dX10_measures_64 rfl ?_
              refine z_getR G fl_X10_25 rfl dX10_measures_65 (by assumption) (by assumption) ?_
              refine z_iconst G (v := 4) dX10_measures_68 (by decide) ?_
              refine z_iconst G (v := 5) dX10_measures_69 (by decide) ?_
              refine z_iload_n G dX10_measures_70 rfl ?_
              refine z_imul G dX10_measures_71 ?_
              refine z_iadd G dX10_measures_72 ?_
              refine z_iald G (4 + 5 * p) dX10_measures_73 (by assumption) (by simp (disch := omega) only [iN_lit, iN_add, iN_sub, iN_mul, iN_an, iN_of hu3]; exact iN_ti2 (by omega) (by omega)) (by omega) ?_
              rw [hw2 a]
              refine z_icmp_gt G 140 dX10_measures_74 (by decide) (fun _ => ?_) (fun c => absurd c (fun z => z (by simp (disch := omega) only [iN_lit, iN_add, iN_sub, iN_mul, iN_an, iN_le, iN_lt, iN_eq, iN_of hu4, iN_of c1] <;> omega)))
              refine z_iinc G (v := 1) dX10_measures_140 (by decide) rfl rfl ?_
              refine z_goto G 49 dX10_measures_143 (by decide) ?_
              exact ih3 (p + 1) _ a _ _ (by simp (disch := omega) only [iN_lit, iN_add, iN_sub, iN_mul, iN_an, iN_of hu3]; exact iN_ti2 (by omega) (by omega)) (by omega) (hB.next ec)
            | succ r4 ih4 =>
              intro j u4 a o5 hu4 hr4 hB
              obtain ⟨tq, t1, t2⟩ := c4 j (by omega)
              have et : tn (w (5 + 5 * p + j)) = tq := by unfold tn; omega
              refine z_iload G dX10_measures_62 rfl ?_
              refine z_aload_n G dX10_measures_64 rfl ?_
              refine z_getR G fl_X10_25 rfl dX10_measures_65 (by assumption) (by assumption) ?_
              refine z_iconst G (v := 4) dX10_measures_68 (by decide) ?_
              refine z_iconst G (v := 5) dX10_measures_69 (by decide) ?_
              refine z_iload_n G dX10_measures_70 rfl ?_
              refine z_imul G dX10_measures_71 ?_
              refine z_iadd G dX10_measures_72 ?_
              refine z_iald G (4 + 5 * p) dX10_measures_73 (by assumption) (by simp (disch := omega) only [iN_lit, iN_add, iN_sub, iN_mul, iN_an, iN_of hu3]; exact iN_ti2 (by omega) (by omega)) (by omega) ?_
              rw [hw2 a]
              refine z_icmp_gt G 140 dX10_measures_74 (by decide) (fun c => absurd c (by simp (disch := omega) only [iN_lit, iN_add, iN_sub, iN_mul, iN_an, iN_le, iN_lt, iN_eq, iN_of hu4, iN_of c1]; omega)) (fun _ => ?_)
              refine z_aload_n G dX10_measures_77 rfl ?_
              refine z_getR G fl_X10_25 rfl dX10_measures_78 (by assumption) (by assumption) ?_
              refine z_iconst G (v := 4) dX10_measures_81 (by decide) ?_
              refine z_iconst G (v := 5) dX10_measures_82 (by decide) ?_
              refine z_iload_n G dX10_measures_83 rfl ?_
              refine z_imul G dX10_measures_84 ?_
              refine z_iadd G dX10_measures_85 ?_
              refine z_iload G dX10_measures_86 rfl ?_
              refine z_iadd G dX10_measures_88 ?_
              refine z_iald G (5 + 5 * p + j) dX10_measures_89 (by assumption) (by simp (disch := omega) only [iN_lit, iN_add, iN_sub, iN_mul, iN_an, iN_of hu3, iN_of hu4]; exact iN_ti2 (by omega) (by omega)) (by omega) ?_
              rw [hw2 a, iN_of t1]
              refine z_istore G dX10_measures_90 (Nat.le_of_ble_eq_true rfl) rfl ?_
              refine z_aload_n G dX10_measures_92 rfl ?_
              refine z_getR G fl_X10_44 rfl dX10_measures_93 (by assumption) (by assumption) ?_
              refine z_iload G dX10_measures_96 rfl ?_
              refine z_aload_n G dX10_measures_98 rfl ?_
              refine z_getR G fl_X10_44 rfl dX10_measures_99 (by assumption) (by assumption) ?_
              refine z_iload_n G dX10_measures_102 rfl ?_
              refine z_iald G (p) dX10_measures_103 (by assumption) (hu3) (by omega) ?_
              rw [va_at' rfl]
              refine z_iload_n G dX10_measures_104 rfl ?_
              refine z_icmp_ne G 126 dX10_measures_105 (by decide) (fun b105 => ?_) (fun b105 => ?_)
              · refine z_aload_n G dX10_measures_126 rfl ?_
                refine z_getR G fl_X10_44 rfl dX10_measures_127 (by assumption) (by assumption) ?_
                refine z_iload G dX10_measures_130 rfl ?_
                refine z_iald G (tq) dX10_measures_132 (by assumption) (iN_ti (by omega)) (by omega) ?_
                rw [va_at' rfl]
                refine z_iast G (tq) dX10_measures_133 (by assumption) (iN_ti (by omega)) (by omega) ?_
                refine z_iinc G (v := 1) dX10_measures_134 (by decide) rfl rfl ?_
                refine z_goto G 62 dX10_measures_137 (by decide) ?_
                refine z_eq rfl rfl rfl ?_ rfl (ih4 (j + 1) _ a _ (by simp (disch := omega) only [iN_lit, iN_add, iN_sub, iN_mul, iN_an, iN_of hu4]; exact iN_ti2 (by omega) (by omega)) (by omega) (hB.stepF et (fun z => b105 ?_)))
                · rw [va_up_up, va_at' rfl, va_up_id]
                · rw [(hB.at hpn (by omega)).mpr z.1, iN_of hu]
              · refine z_aload_n G dX10_measures_108 rfl ?_
                refine z_getR G fl_X10_44 rfl dX10_measures_109 (by assumption) (by assumption) ?_
                refine z_iload G dX10_measures_112 rfl ?_
                refine z_iald G (tq) dX10_measures_114 (by assumption) (iN_ti (by omega)) (by omega) ?_
                rw [va_at' rfl]
                refine z_ldc G ct_X10_56 dX10_measures_115 ?_
                refine z_icmp_ne G 126 dX10_measures_117 (by decide) (fun b117 => ?_) (fun b117 => ?_)
                · refine z_aload_n G dX10_measures_126 rfl ?_
                  refine z_getR G fl_X10_44 rfl dX10_measures_127 (by assumption) (by assumption) ?_
                  refine z_iload G dX10_measures_130 rfl ?_
                  refine z_iald G (tq) dX10_measures_132 (by assumption) (iN_ti (by omega)) (by omega) ?_
                  rw [va_at' rfl]
                  refine z_iast G (tq) dX10_measures_133 (by assumption) (iN_ti (by omega)) (by omega) ?_
                  refine z_iinc G (v := 1) dX10_measures_134 (by decide) rfl rfl ?_
                  refine z_goto G 62 dX10_measures_137 (by decide) ?_
                  refine z_eq rfl rfl rfl ?_ rfl (ih4 (j + 1) _ a _ (by simp (disch := omega) only [iN_lit, iN_add, iN_sub, iN_mul, iN_an, iN_of hu4]; exact iN_ti2 (by omega) (by omega)) (by omega) (hB.stepF et (fun z => b117 z.2)))
                  rw [va_up_up, va_at' rfl, va_up_id]
                · refine z_iload_n G dX10_measures_120 rfl ?_
                  refine z_iconst G (v := 1) dX10_measures_121 (by decide) ?_
                  refine z_iadd G dX10_measures_122 ?_
                  refine z_goto G 133 dX10_measures_123 (by decide) ?_
                  refine z_top (y := iN (k + 1)) (by simp (disch := omega) only [iN_lit, iN_add, iN_sub, iN_mul, iN_an, iN_of hu] <;> exact congrArg iN (by omega)) ?_
                  refine z_iast G (tq) dX10_measures_133 (by assumption) (iN_ti (by omega)) (by omega) ?_
                  refine z_iinc G (v := 1) dX10_measures_134 (by decide) rfl rfl ?_
                  refine z_goto G 62 dX10_measures_137 (by decide) ?_
                  refine z_eq rfl rfl rfl ?_ rfl (ih4 (j + 1) _ (va_up a tq (iN (k + 1))) _ (by simp (disch := omega) only [iN_lit, iN_add, iN_sub, iN_mul, iN_an, iN_of hu4]; exact iN_ti2 (by omega) (by omega)) (by omega) (hB.stepT hpn (by omega) et t2 (by omega) ((hB.at hpn (by omega)).mp ?_) b117))
                  · rw [va_up_up, va_at' rfl]
                  · rw [b105, iN_of hu]
          refine z_iload_n G dX10_measures_49 rfl ?_
          refine z_aload_n G dX10_measures_50 rfl ?_
          refine z_getR G fl_X10_25 rfl dX10_measures_51 (by assumption) (by assumption) ?_
          refine z_iconst G (v := 0) dX10_measures_54 (by decide) ?_
          refine z_iald G (0) dX10_measures_55 (by assumption) (rfl) (by omega) ?_
          rw [hw2 a]
          refine z_icmp_ge G 146 dX10_measures_56 (by decide) (fun c => absurd c (by simp (disch := omega) only [iN_lit, iN_add, iN_sub, iN_mul, iN_an, iN_le, iN_lt, iN_eq, iN_of hu3, iN_of hn]; omega)) (fun _ => ?_)
          refine z_iconst G (v := 1) dX10_measures_59 (by decide) ?_
          refine z_istore G dX10_measures_60 (Nat.le_of_ble_eq_true rfl) rfl ?_
          exact loop4 c 0 1 a _ rfl (by omega) hB
      refine z_iload_n G dX10_measures_37 rfl ?_
      refine z_aload_n G dX10_measures_38 rfl ?_
      refine z_getR G fl_X10_25 rfl dX10_measures_39 (by assumption) (by assumption) ?_
      refine z_iconst G (v := 0) dX10_measures_42 (by decide) ?_
      refine z_iald G (0) dX10_measures_43 (by assumption) (rfl) (by omega) ?_
      rw [hw2 a]
      refine z_icmp_ge G 152 dX10_measures_44 (by decide) (fun c => absurd c (by simp (disch := omega) only [iN_lit, iN_add, iN_sub, iN_mul, iN_an, iN_le, iN_lt, iN_eq, iN_of hu, iN_of hn]; omega)) (fun _ => ?_)
      refine z_iconst G (v := 0) dX10_measures_47 (by decide) ?_
      refine z_istore_n G dX10_measures_48 (Nat.le_of_ble_eq_true rfl) rfl ?_
      exact loop3 n 0 0 a _ _ rfl (by omega) hA.start
  have loop1 : ∀ (r p : Nat) (u : Int32) (a : Nat → Int32), u.toInt = (p : Int) → p + r = n → (∀ q, q < p → (q = f ∧ a q = 0) ∨ (¬ q = f ∧ a q = -1000000)) → pmZ E C 2 [some (rr E m), some (.int fr), some (.int u), none, none, none] [] S (va_up I (m + 12) a) P 0 0 := by
    intro r
    induction r with
    | zero =>
      intro p u a hu hrn hA
      obtain rfl : p = n := by omega
      refine z_iload_n G dX10_measures_2 rfl ?_
      refine z_aload_n G dX10_measures_3 rfl ?_
      refine z_getR G fl_X10_25 rfl dX10_measures_4 (by assumption) (by assumption) ?_
      refine z_iconst G (v := 0) dX10_measures_7 (by decide) ?_
      refine z_iald G (0) dX10_measures_8 (by assumption) (rfl) (by omega) ?_
      rw [hw2 a]
      refine z_icmp_ge G 35 dX10_measures_9 (by decide) (fun _ => ?_) (fun c => absurd c (fun z => z (by simp (disch := omega) only [iN_lit, iN_add, iN_sub, iN_mul, iN_an, iN_le, iN_lt, iN_eq, iN_of hu, iN_of hn] <;> omega)))
      refine z_iconst G (v := 0) dX10_measures_35 (by decide) ?_
      refine z_istore_n G dX10_measures_36 (Nat.le_of_ble_eq_true rfl) rfl ?_
      refine loop2 p 0 0 a _ _ _ rfl (by omega) (fun q hq => ?_)
      rcases hA q hq with ⟨e1, e2⟩ | ⟨e1, e2⟩
      · exact Or.inl ⟨0, by omega, ⟨e1, fun e he => absurd he (by omega)⟩, e2⟩
      · exact Or.inr ⟨e1, e2⟩
    | succ r ih =>
      intro p u a hu hrn hA
      refine z_iload_n G dX10_measures_2 rfl ?_
      refine z_aload_n G dX10_measures_3 rfl ?_
      refine z_getR G fl_X10_25 rfl dX10_measures_4 (by assumption) (by assumption) ?_
      refine z_iconst G (v := 0) dX10_measures_7 (by decide) ?_
      refine z_iald G (0) dX10_measures_8 (by assumption) (rfl) (by omega) ?_
      rw [hw2 a]
      refine z_icmp_ge G 35 dX10_measures_9 (by decide) (fun c => absurd c (by simp (disch := omega) only [iN_lit, iN_add, iN_sub, iN_mul, iN_an, iN_le, iN_lt, iN_eq, iN_of hu, iN_of hn]; omega)) (fun _ => ?_)
      refine z_aload_n G dX10_measures_12 rfl ?_
      refine z_getR G fl_X10_44 rfl dX10_measures_13 (by assumption) (by assumption) ?_
      refine z_iload_n G dX10_measures_16 rfl ?_
      refine z_iload_n G dX10_measures_17 rfl ?_
      refine z_iload_n G dX10_measures_18 rfl ?_
      refine z_icmp_ne G 26 dX10_measures_19 (by decide) (fun b19 => ?_) (fun b19 => ?_)
      · refine z_ldc G ct_X10_56 dX10_measures_26 ?_
        refine z_iast G (p) dX10_measures_28 (by assumption) (hu) (by omega) ?_
        refine z_iinc G (v := 1) dX10_measures_29 (by decide) rfl rfl ?_
        refine z_goto G 2 dX10_measures_32 (by decide) ?_
        refine z_eq rfl rfl rfl ?_ rfl (ih (p + 1) _ (va_up a p (-1000000)) (by simp (disch := omega) only [iN_lit, iN_add, iN_sub, iN_mul, iN_an, iN_of hu]; exact iN_ti2 (by omega) (by omega)) (by omega) (fun q hq => ?_))
        · rw [va_up_up, va_at' rfl]
        · by_cases hqp : q = p
          · subst hqp; rw [va_at' rfl]; exact Or.inr ⟨fun z => b19 (by rw [iN_of hu, iN_of hf, z]), rfl⟩
          · rw [va_ne' hqp]; exact hA q (by omega)
      · refine z_iconst G (v := 0) dX10_measures_22 (by decide) ?_
        refine z_goto G 28 dX10_measures_23 (by decide) ?_
        refine z_iast G (p) dX10_measures_28 (by assumption) (hu) (by omega) ?_
        refine z_iinc G (v := 1) dX10_measures_29 (by decide) rfl rfl ?_
        refine z_goto G 2 dX10_measures_32 (by decide) ?_
        refine z_eq rfl rfl rfl ?_ rfl (ih (p + 1) _ (va_up a p (0)) (by simp (disch := omega) only [iN_lit, iN_add, iN_sub, iN_mul, iN_an, iN_of hu]; exact iN_ti2 (by omega) (by omega)) (by omega) (fun q hq => ?_))
        · rw [va_up_up, va_at' rfl]
        · by_cases hqp : q = p
          · subst hqp; rw [va_at' rfl]; exact Or.inl ⟨by have := congrArg Int32.toInt b19; omega, rfl⟩
          · rw [va_ne' hqp]; exact hA q (by omega)
  refine z_iconst G (v := 0) dX10_measures_0 (by decide) ?_
  refine z_istore_n G dX10_measures_1 (Nat.le_of_ble_eq_true rfl) rfl ?_
  refine z_eq rfl rfl rfl ?_ rfl (loop1 n 0 0 (I (m + 12)) rfl (by omega) (fun q hq => absurd hq (by omega)))
  rw [va_up_id]
set_option maxHeartbeats 1000000 in
set_option maxRecDepth 20000 in
theorem k_X10_far {E : pmE} {d : Nat} {S : pmS} {I : pmI} {P : pmP} {R : Option Value → pmS → pmI → pmP → Prop} {m : Nat} (hM : MG S P m) {n : Nat} {w : Nat → Int32} (hw : I (m + 6) = w) (hn : (w 0).toInt = (n : Int)) (hn8 : n ≤ 8) (hv : VL w n) {fr tt : Int32} (hb : (¬ ∃ f q : Nat, fr.toInt = (f : Int) ∧ f < n ∧ tt.toInt = (q : Int) ∧ q < n) → R (some (.int (-1000001))) S I P) (h : ∀ (f q : Nat) (a : Nat → Int32), fr.toInt = (f : Int) → f < n → tt.toInt = (q : Int) → q < n → R (some (.int (farI w n f q))) S (va_up I (m + 12) a) P) : pmX E (d + 2) 0 0 yX10_far [rr E m, .int fr, .int tt] S I P R := by
  refine pm_of (by decide) cd_X10_far (by decide) (by decide) (Nat.le_of_ble_eq_true rfl) ?_
  intro C G hq
  obtain ⟨g0, ⟨r0, r1, r2, r3, r4, r5, r6, r7, r8, r9, r10, r11, r12, r13, r14⟩, ⟨s1, s2, s3, s4, s5, s6, s7, s8, s9, s10, s11, s12, s13, s14, s15⟩⟩ := id hM
  refine z_aload_n G dX10_far_0 rfl ?_
  refine z_iload_n G dX10_far_1 rfl ?_
  refine z_V G lk_X10_205 dX10_far_2 [_] rfl rfl rfl (Nat.le_of_ble_eq_true rfl) ⟨Nat.le_refl _, Nat.le_refl _⟩ (by assumption) ?_
  refine k_X10_isPage hM (by rw [hw]; exact hn) hn8 ?_ ?_
  · intro f hf1 hf2
    refine z_if_eq G 16 dX10_far_5 (by decide) (fun c => absurd c (by decide)) (fun _ => ?_)
    refine z_aload_n G dX10_far_8 rfl ?_
    refine z_iload_n G dX10_far_9 rfl ?_
    refine z_V G lk_X10_205 dX10_far_10 [_] rfl rfl rfl (Nat.le_of_ble_eq_true rfl) ⟨Nat.le_refl _, Nat.le_refl _⟩ (by assumption) ?_
    refine k_X10_isPage hM (by rw [hw]; exact hn) hn8 ?_ ?_
    · intro q hq1 hq2
      refine z_if_ne G 19 dX10_far_13 (by decide) (fun _ => ?_) (fun c => absurd c (by decide))
      refine z_aload_n G dX10_far_19 rfl ?_
      refine z_iload_n G dX10_far_20 rfl ?_
      refine z_V G lk_X10_214 dX10_far_21 [_] rfl rfl rfl (Nat.le_of_ble_eq_true rfl) ⟨Nat.le_refl _, Nat.le_refl _⟩ (by assumption) ?_
      refine k_X10_measures hM hw hn hn8 hv hf1 hf2 (fun a ha => ?_)
      refine z_aload_n G dX10_far_24 rfl ?_
      refine z_getR G fl_X10_44 rfl dX10_far_25 (by assumption) (by assumption) ?_
      refine z_iload_n G dX10_far_28 rfl ?_
      refine z_iald G (q) dX10_far_29 (by assumption) (hq1) (by omega) ?_
      exact z_iret G hq dX10_far_30 (by rw [va_at' rfl, ha q hq2]; exact h f q a hf1 hf2 hq1 hq2)
    · intro hno
      refine z_if_ne G 19 dX10_far_13 (by decide) (fun c => absurd c (by decide)) (fun _ => ?_)
      refine z_ldc G ct_X10_70 dX10_far_16 ?_
      exact z_iret G hq dX10_far_18 (hb (fun ⟨f, q, _, _, q1, q2⟩ => hno ⟨q, q1, q2⟩))
  · intro hno
    refine z_if_eq G 16 dX10_far_5 (by decide) (fun _ => ?_) (fun c => absurd c (by decide))
    refine z_ldc G ct_X10_70 dX10_far_16 ?_
    exact z_iret G hq dX10_far_18 (hb (fun ⟨f, q, q1, q2, _⟩ => hno ⟨f, q1, q2⟩))
set_option maxHeartbeats 1000000 in
set_option maxRecDepth 20000 in
theorem k_X10_round {E : pmE} {d : Nat} {S : pmS} {I : pmI} {P : pmP} {R : Option Value → pmS → pmI → pmP → Prop} {m : Nat} (hM : MG S P m) {n : Nat} {w : Nat → Int32} (hw : I (m + 6) = w) (hn : (w 0).toInt = (n : Int)) (hn8 : n ≤ 8) (hv : VL w n) {page : Int32} (hb : (¬ ∃ q : Nat, page.toInt = (q : Int) ∧ q < n) → R (some (.int (-1000001))) S I P) (h : ∀ (pg : Nat) (a : Nat → Int32), page.toInt = (pg : Int) → pg < n → R (some (.int (bitsI (fun q => ¬ farI w n pg q = -1000000 ∧ ¬ farI w n q pg = -1000000) n))) S (va_up I (m + 12) a) P) : pmX E (d + 2) 0 0 yX10_round [rr E m, .int page] S I P R := by
  refine pm_of (by decide) cd_X10_round (by decide) (by decide) (Nat.le_of_ble_eq_true rfl) ?_
  intro C G hq
  obtain ⟨g0, ⟨r0, r1, r2, r3, r4, r5, r6, r7, r8, r9, r10, r11, r12, r13, r14⟩, ⟨s1, s2, s3, s4, s5, s6, s7, s8, s9, s10, s11, s12, s13, s14, s15⟩⟩ := id hM
  have hw2 : ∀ a, va_up I (m + 12) a (m + 6) = w := fun a => by rw [va_ne' (by omega), hw]
  have loop : ∀ (pg : Nat), page.toInt = (pg : Int) → pg < n → ∀ (r k : Nat) (u : Int32) (a : Nat → Int32) (o4 : Option Value), u.toInt = (k : Int) → k + r = n → pmZ E C 15 [some (rr E m), some (.int page), some (.int (bitsI (fun q => ¬ farI w n pg q = -1000000 ∧ ¬ farI w n q pg = -1000000) k)), some (.int u), o4] [] S (va_up I (m + 12) a) P 0 0 := by
    intro pg hp hpn r
    induction r with
    | zero =>
      intro k u a o4 hu hrn
      obtain rfl : k = n := by omega
      refine z_iload_n G dX10_round_15 rfl ?_
      refine z_aload_n G dX10_round_16 rfl ?_
      refine z_getR G fl_X10_25 rfl dX10_round_17 (by assumption) (by assumption) ?_
      refine z_iconst G (v := 0) dX10_round_20 (by decide) ?_
      refine z_iald G (0) dX10_round_21 (by assumption) (rfl) (by omega) ?_
      rw [hw2 a]
      refine z_icmp_ge G 85 dX10_round_22 (by decide) (fun _ => ?_) (fun c => absurd c (fun z => z (by simp (disch := omega) only [iN_lit, iN_add, iN_sub, iN_mul, iN_an, iN_le, iN_lt, iN_eq, iN_of hu, iN_of hn] <;> omega)))
      refine z_iload_n G dX10_round_85 rfl ?_
      exact z_iret G hq dX10_round_86 (h pg a hp hpn)
    | succ r ih =>
      intro k u a o4 hu hrn
      refine z_iload_n G dX10_round_15 rfl ?_
      refine z_aload_n G dX10_round_16 rfl ?_
      refine z_getR G fl_X10_25 rfl dX10_round_17 (by assumption) (by assumption) ?_
      refine z_iconst G (v := 0) dX10_round_20 (by decide) ?_
      refine z_iald G (0) dX10_round_21 (by assumption) (rfl) (by omega) ?_
      rw [hw2 a]
      refine z_icmp_ge G 85 dX10_round_22 (by decide) (fun c => absurd c (by simp (disch := omega) only [iN_lit, iN_add, iN_sub, iN_mul, iN_an, iN_le, iN_lt, iN_eq, iN_of hu, iN_of hn]; omega)) (fun _ => ?_)
      refine z_aload_n G dX10_round_25 rfl ?_
      refine z_iload_n G dX10_round_26 rfl ?_
      refine z_V G lk_X10_214 dX10_round_27 [_] rfl rfl rfl (Nat.le_of_ble_eq_true rfl) ⟨Nat.le_refl _, Nat.le_refl _⟩ (by assumption) ?_
      refine k_X10_measures hM (hw2 a) hn hn8 hv hu (by omega) (fun a1 ha1 => ?_)
      refine z_aload_n G dX10_round_30 rfl ?_
      refine z_getR G fl_X10_44 rfl dX10_round_31 (by assumption) (by assumption) ?_
      refine z_iload_n G dX10_round_34 rfl ?_
      refine z_iald G (pg) dX10_round_35 (by assumption) (hp) (by omega) ?_
      rw [va_at' rfl, ha1 pg hpn]
      refine z_ldc G ct_X10_56 dX10_round_36 ?_
      refine z_icmp_eq G 45 dX10_round_38 (by decide) (fun b38 => ?_) (fun b38 => ?_)
      · refine z_iconst G (v := 0) dX10_round_45 (by decide) ?_
        refine z_istore G dX10_round_46 (Nat.le_of_ble_eq_true rfl) rfl ?_
        refine z_aload_n G dX10_round_48 rfl ?_
        refine z_iload_n G dX10_round_49 rfl ?_
        refine z_V G lk_X10_214 dX10_round_50 [_] rfl rfl rfl (Nat.le_of_ble_eq_true rfl) ⟨Nat.le_refl _, Nat.le_refl _⟩ (by assumption) ?_
        refine k_X10_measures hM (by rw [va_up_up]; exact hw2 a1) hn hn8 hv hp hpn (fun a2 ha2 => ?_)
        refine z_iload_n G dX10_round_53 rfl ?_
        refine z_iload G dX10_round_54 rfl ?_
        refine z_if_eq G 76 dX10_round_56 (by decide) (fun _ => ?_) (fun c => absurd c (by decide))
        refine z_iconst G (v := 0) dX10_round_76 (by decide) ?_
        refine z_ior G dX10_round_77 ?_
        refine z_istore_n G dX10_round_78 (Nat.le_of_ble_eq_true rfl) rfl ?_
        refine z_iinc G (v := 1) dX10_round_79 (by decide) rfl rfl ?_
        refine z_goto G 15 dX10_round_82 (by decide) ?_
        refine z_eq rfl ?_ rfl ?_ rfl (ih (k + 1) (u + 1) a2 (some (.int 0)) (by simp (disch := omega) only [iN_lit, iN_add, iN_sub, iN_mul, iN_an, iN_of hu]; exact iN_ti2 (by omega) (by omega)) (by omega))
        · show _ = [some (rr E m), some (.int page), some (.int (@ite Int32 (¬ farI w n pg k = -1000000 ∧ ¬ farI w n k pg = -1000000) (Classical.propDecidable _) (bitsI (fun q => ¬ farI w n pg q = -1000000 ∧ ¬ farI w n q pg = -1000000) k ||| (1 <<< (iN k &&& 31))) (bitsI (fun q => ¬ farI w n pg q = -1000000 ∧ ¬ farI w n q pg = -1000000) k))), some (.int (u + 1)), _]
          rw [if_neg (fun z => z.2 b38), Int32.or_zero]
          all_goals rfl
        · rw [va_up_up, va_up_up]
      · refine z_iconst G (v := 1) dX10_round_41 (by decide) ?_
        refine z_goto G 46 dX10_round_42 (by decide) ?_
        refine z_istore G dX10_round_46 (Nat.le_of_ble_eq_true rfl) rfl ?_
        refine z_aload_n G dX10_round_48 rfl ?_
        refine z_iload_n G dX10_round_49 rfl ?_
        refine z_V G lk_X10_214 dX10_round_50 [_] rfl rfl rfl (Nat.le_of_ble_eq_true rfl) ⟨Nat.le_refl _, Nat.le_refl _⟩ (by assumption) ?_
        refine k_X10_measures hM (by rw [va_up_up]; exact hw2 a1) hn hn8 hv hp hpn (fun a2 ha2 => ?_)
        refine z_iload_n G dX10_round_53 rfl ?_
        refine z_iload G dX10_round_54 rfl ?_
        refine z_if_eq G 76 dX10_round_56 (by decide) (fun c => absurd c (by decide)) (fun _ => ?_)
        refine z_aload_n G dX10_round_59 rfl ?_
        refine z_getR G fl_X10_44 rfl dX10_round_60 (by assumption) (by assumption) ?_
        refine z_iload_n G dX10_round_63 rfl ?_
        refine z_iald G (k) dX10_round_64 (by assumption) (hu) (by omega) ?_
        rw [va_at' rfl, ha2 k (by omega)]
        refine z_ldc G ct_X10_56 dX10_round_65 ?_
        refine z_icmp_eq G 76 dX10_round_67 (by decide) (fun b67 => ?_) (fun b67 => ?_)
        · refine z_iconst G (v := 0) dX10_round_76 (by decide) ?_
          refine z_ior G dX10_round_77 ?_
          refine z_istore_n G dX10_round_78 (Nat.le_of_ble_eq_true rfl) rfl ?_
          refine z_iinc G (v := 1) dX10_round_79 (by decide) rfl rfl ?_
          refine z_goto G 15 dX10_round_82 (by decide) ?_
          refine z_eq rfl ?_ rfl ?_ rfl (ih (k + 1) (u + 1) a2 (some (.int 1)) (by simp (disch := omega) only [iN_lit, iN_add, iN_sub, iN_mul, iN_an, iN_of hu]; exact iN_ti2 (by omega) (by omega)) (by omega))
          · show _ = [some (rr E m), some (.int page), some (.int (@ite Int32 (¬ farI w n pg k = -1000000 ∧ ¬ farI w n k pg = -1000000) (Classical.propDecidable _) (bitsI (fun q => ¬ farI w n pg q = -1000000 ∧ ¬ farI w n q pg = -1000000) k ||| (1 <<< (iN k &&& 31))) (bitsI (fun q => ¬ farI w n pg q = -1000000 ∧ ¬ farI w n q pg = -1000000) k))), some (.int (u + 1)), _]
            rw [if_neg (fun z => z.1 b67), Int32.or_zero]
            all_goals rfl
          · rw [va_up_up, va_up_up]
        · refine z_iconst G (v := 1) dX10_round_70 (by decide) ?_
          refine z_iload_n G dX10_round_71 rfl ?_
          refine z_ishl G dX10_round_72 ?_
          refine z_goto G 77 dX10_round_73 (by decide) ?_
          refine z_ior G dX10_round_77 ?_
          refine z_istore_n G dX10_round_78 (Nat.le_of_ble_eq_true rfl) rfl ?_
          refine z_iinc G (v := 1) dX10_round_79 (by decide) rfl rfl ?_
          refine z_goto G 15 dX10_round_82 (by decide) ?_
          refine z_eq rfl ?_ rfl ?_ rfl (ih (k + 1) (u + 1) a2 (some (.int 1)) (by simp (disch := omega) only [iN_lit, iN_add, iN_sub, iN_mul, iN_an, iN_of hu]; exact iN_ti2 (by omega) (by omega)) (by omega))
          · show _ = [some (rr E m), some (.int page), some (.int (@ite Int32 (¬ farI w n pg k = -1000000 ∧ ¬ farI w n k pg = -1000000) (Classical.propDecidable _) (bitsI (fun q => ¬ farI w n pg q = -1000000 ∧ ¬ farI w n q pg = -1000000) k ||| (1 <<< (iN k &&& 31))) (bitsI (fun q => ¬ farI w n pg q = -1000000 ∧ ¬ farI w n q pg = -1000000) k))), some (.int (u + 1)), _]
            rw [if_pos ⟨b67, b38⟩, ← iN_of hu]
            all_goals rfl
          · rw [va_up_up, va_up_up]
  refine z_aload_n G dX10_round_0 rfl ?_
  refine z_iload_n G dX10_round_1 rfl ?_
  refine z_V G lk_X10_205 dX10_round_2 [_] rfl rfl rfl (Nat.le_of_ble_eq_true rfl) ⟨Nat.le_refl _, Nat.le_refl _⟩ (by assumption) ?_
  refine k_X10_isPage hM (by rw [hw]; exact hn) hn8 ?_ ?_
  · intro q hq1 hq2
    refine z_if_ne G 11 dX10_round_5 (by decide) (fun _ => ?_) (fun c => absurd c (by decide))
    refine z_iconst G (v := 0) dX10_round_11 (by decide) ?_
    refine z_istore_n G dX10_round_12 (Nat.le_of_ble_eq_true rfl) rfl ?_
    refine z_iconst G (v := 0) dX10_round_13 (by decide) ?_
    refine z_istore_n G dX10_round_14 (Nat.le_of_ble_eq_true rfl) rfl ?_
    refine z_eq rfl rfl rfl ?_ rfl (loop q hq1 hq2 n 0 0 (I (m + 12)) none rfl (by omega))
    rw [va_up_id]
  · intro hno
    refine z_if_ne G 11 dX10_round_5 (by decide) (fun c => absurd c (by decide)) (fun _ => ?_)
    refine z_ldc G ct_X10_70 dX10_round_8 ?_
    exact z_iret G hq dX10_round_10 (hb hno)
