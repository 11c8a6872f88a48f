/-! evenings by draws -/
def iL (n : Nat) : Int64 := Int64.ofNat n
theorem iL_ti {n : Nat} (h : n < 9223372036854775808) : (iL n).toInt = n := by
  unfold iL
  rw [Int64.toInt_ofNat_of_lt (by simpa using h)]
theorem iL_inj {x y : Int64} : x = y ↔ x.toInt = y.toInt := Int64.toInt_inj.symm
theorem iL_mul (a b : Nat) : iL a * iL b = iL (a * b) := (Int64.ofNat_mul a b).symm
theorem iL_add (a b : Nat) : iL a + iL b = iL (a + b) := (Int64.ofNat_add a b).symm
theorem iL_sub {a b : Nat} (h : b ≤ a) : iL a - iL b = iL (a - b) := by
  have e : iL a = iL (a - b) + iL b := by rw [iL_add]; congr 1; omega
  rw [e, Int64.add_sub_cancel]
theorem iL_bm (z : Int) (h0 : 0 ≤ z) (h1 : z < 9223372036854775808) : z.bmod 18446744073709551616 = z := by
  unfold Int.bmod
  dsimp only
  split <;> omega
theorem iL_div {a b : Nat} (ha : a < 9223372036854775808) (hb : b < 9223372036854775808) : iL a / iL b = iL (a / b) := by
  have h1 : a / b ≤ a := Nat.div_le_self a b
  rw [iL_inj, Int64.toInt_div, iL_ti ha, iL_ti hb, iL_ti (by omega), ← Int.ofNat_tdiv]
  show Int.bmod ((a / b : Nat) : Int) 18446744073709551616 = _
  generalize a / b = q at h1 ⊢
  exact iL_bm _ (by omega) (by omega)
theorem iL_rem {a b : Nat} (ha : a < 9223372036854775808) (hb : b < 9223372036854775808) : iL a - iL a / iL b * iL b = iL (a % b) := by
  have h2 : a / b * b ≤ a := Nat.div_mul_le_self a b
  rw [iL_div ha hb, iL_mul, iL_sub h2]
  congr 1
  have := Nat.div_add_mod a b
  rw [Nat.mul_comm] at this
  omega
theorem iL_i {n : Nat} (h : n < 2147483648) : (iL n).toInt32 = iN n := by
  rw [ti_eq, Int64.toInt_toInt32, iL_ti (by omega), iN_ti h]
  show Int.bmod (n : Int) 4294967296 = _
  rw [ti_bm]; omega
theorem iN_l {n : Nat} (h : n < 2147483648) : (iN n).toInt64 = iL n := by
  rw [iL_inj, Int32.toInt_toInt64, iN_ti h, iL_ti (by omega)]
def nextX (x : Nat) : Nat := x * 16807 % 2147483647
theorem nextX_lt {x : Nat} : nextX x < 2147483647 := Nat.mod_lt _ (by omega)
noncomputable def drS (w : Nat → Int32) (x : Nat) : Nat → Int32 :=
  if x % 7 < 3 then @ite _ (mayP w (x % 7 + 2)) (Classical.propDecidable _) (doP w (x % 7 + 2)) w
  else if x % 7 = 3 then @ite _ (mayP w 0) (Classical.propDecidable _) (doP w 0) w
  else if x % 7 = 4 then va_up w 2 (iN (x % pT w))
  else if x % 7 = 5 then (if pT w < 5 then opensF w (pT w) (iN (x % tn (w 0))) else w)
  else (if 2 ≤ pT w then closesF w (pT w) (pt w) (tn (w 3)) else w)
def drV (w : Nat → Int32) (x : Nat) : Prop := (x % 7 < 3 ∧ mayP w (x % 7 + 2)) ∨ (x % 7 = 5 ∧ pT w < 5)
noncomputable def drW : Nat → (Nat → Int32) → Nat → Nat → Int32
  | 0, w, _ => w
  | k + 1, w, x => drW k (drS w (nextX x)) (nextX x)
noncomputable def drC : Nat → (Nat → Int32) → Nat → Int32 → Int32
  | 0, _, _, a => a
  | k + 1, w, x, a => drC k (drS w (nextX x)) (nextX x) (a + @ite Int32 (drV w (nextX x)) (Classical.propDecidable _) 1 0)
def VK (w w' : Nat → Int32) (n : Nat) : Prop := (∃ T t c, Vd w' n T t c) ∧ (w' 0 = w 0 ∧ ∀ p j, p < 8 → j < 4 → w' (4 + 5 * p + j) = w (4 + 5 * p + j)) ∧ ∀ i, 124 ≤ i → w' i = w i
theorem VK.rf {w : Nat → Int32} {n T t c : Nat} (h : Vd w n T t c) : VK w w n := ⟨⟨T, t, c, h⟩, ⟨rfl, fun _ _ _ _ => rfl⟩, fun _ _ => rfl⟩
theorem Vd.vkP {w : Nat → Int32} {n T t c d : Nat} (h : Vd w n T t c) (hd : d < 5) (hm : mayP w d) : VK w (doP w d) n := by
  obtain ⟨T', t', h1, _, h3⟩ := h.doK hd hm
  exact ⟨⟨T', t', c, h1⟩, h3, h.doHi hd hm⟩
theorem Vd.vkO {w : Nat → Int32} {n T t c q : Nat} {page : Int32} (h : Vd w n T t c) (hT : T < 5) (hq : page.toInt = (q : Int)) (hqn : q < n) : VK w (opensF w T page) n := by
  have hV := h.ins hT h.2.1.1 (Nat.le_refl _) hq hqn
  obtain ⟨s', p', hN, hp'⟩ := hV.nw
  have h8 := h.1.2.2
  have off : ∀ i, i ≠ 8 + 5 * p' → i ≠ 1 ∧ i ≠ 2 → i < 44 + 10 * T ∨ 54 + 10 * T ≤ i → opensF w T page i = w i := fun i a b d => by
    unfold opensF
    rw [hN.see, vis_off a]
    exact ins_at b d (Nat.le_refl _)
  exact ⟨⟨_, _, _, h.opens hT hq hqn⟩, ⟨off _ (by omega) (by omega) (by omega), fun p j hp hj => off _ (by omega) (by omega) (by omega)⟩, fun i hi => off _ (by omega) (by omega) (by omega)⟩
theorem Vd.vkC {w : Nat → Int32} {n T t c : Nat} (h : Vd w n T t c) (hT : 2 ≤ T) : VK w (closesF w T t c) n := by
  have ht := h.2.2.1.2
  have hT5 := h.2.1.2.2
  have hc3 := h.2.2.2.1.2
  refine ⟨⟨_, _, _, h.closes hT⟩, ⟨?_, fun p j hp hj => ?_⟩, fun i hi => ?_⟩
  · rw [closes_off (by omega) (by omega) ht, keep_off (by omega) (by omega)]
  · rw [closes_off (by omega) (by omega) ht, keep_off (by omega) (by omega)]
  · rw [closes_off (by omega) (by omega) ht]
    unfold keepF
    split
    · split
      · simp (disch := omega) only [va_ne', cpy_off]
      · simp (disch := omega) only [va_ne', cpy_off]
    · rfl
theorem Vd.vkS {w : Nat → Int32} {n T t c q : Nat} {x : Int32} (h : Vd w n T t c) (hx : x.toInt = (q : Int)) (hq : q < T) : VK w (va_up w 2 x) n :=
  ⟨⟨_, _, _, h.sel hx hq⟩, ⟨va_ne' (by omega), fun p j hp hj => va_ne' (by omega)⟩, fun i hi => va_ne' (by omega)⟩
section DRAW
variable {w : Nat → Int32} {n T t c x : Nat}
theorem dr_T (hx : x % 7 < 3) (hm : mayP w (x % 7 + 2)) : drS w x = doP w (x % 7 + 2) := by unfold drS; rw [if_pos hx, if_pos hm]
theorem dr_F (hx : x % 7 < 3) (hm : ¬ mayP w (x % 7 + 2)) : drS w x = w := by unfold drS; rw [if_pos hx, if_neg hm]
theorem dr_3T (hx : x % 7 = 3) (hm : mayP w 0) : drS w x = doP w 0 := by unfold drS; rw [if_neg (by omega), if_pos hx, if_pos hm]
theorem dr_3F (hx : x % 7 = 3) (hm : ¬ mayP w 0) : drS w x = w := by unfold drS; rw [if_neg (by omega), if_pos hx, if_neg hm]
theorem dr_4 (hx : x % 7 = 4) (h : Vd w n T t c) : drS w x = va_up w 2 (iN (x % T)) := by unfold drS; rw [if_neg (by omega), if_neg (by omega), if_pos hx, h.pp.1]
theorem dr_5T (hx : x % 7 = 5) (h : Vd w n T t c) (hT : T < 5) : drS w x = opensF w T (iN (x % n)) := by
  have e : tn (w 0) = n := by have := h.1.1; unfold tn; omega
  unfold drS; rw [if_neg (by omega), if_neg (by omega), if_neg (by omega), if_pos hx, h.pp.1, if_pos hT, e]
theorem dr_5F (hx : x % 7 = 5) (h : Vd w n T t c) (hT : ¬ T < 5) : drS w x = w := by
  unfold drS; rw [if_neg (by omega), if_neg (by omega), if_neg (by omega), if_pos hx, h.pp.1, if_neg hT]
theorem dr_6T (hx : x % 7 = 6) (h : Vd w n T t c) (hT : 2 ≤ T) : drS w x = closesF w T t c := by
  have e : tn (w 3) = c := by have := h.2.2.2.1.1; unfold tn; omega
  unfold drS; rw [if_neg (by omega), if_neg (by omega), if_neg (by omega), if_neg (by omega), h.pp.1, if_pos hT, h.pp.2, e]
theorem dr_6F (hx : x % 7 = 6) (h : Vd w n T t c) (hT : ¬ 2 ≤ T) : drS w x = w := by
  unfold drS; rw [if_neg (by omega), if_neg (by omega), if_neg (by omega), if_neg (by omega), h.pp.1, if_neg hT]
theorem drV_y (hx : x % 7 < 3) (hm : mayP w (x % 7 + 2)) : drV w x := Or.inl ⟨hx, hm⟩
theorem drV_5 (hx : x % 7 = 5) (h : Vd w n T t c) : drV w x ↔ T < 5 := by
  unfold drV; rw [h.pp.1]
  exact ⟨fun z => z.elim (fun z => by omega) (fun z => z.2), fun z => Or.inr ⟨hx, z⟩⟩
theorem drV_n (hx : x % 7 < 3) (hm : ¬ mayP w (x % 7 + 2)) : ¬ drV w x := fun z => z.elim (fun z => hm z.2) (fun z => by omega)
theorem drV_o (hx : x % 7 = 3 ∨ x % 7 = 4 ∨ x % 7 = 6) : ¬ drV w x := fun z => z.elim (fun z => by omega) (fun z => by omega)
theorem Vd.drK (h : Vd w n T t c) : VK w (drS w x) n := by
  have hx7 := Nat.mod_lt x (show 0 < 7 by omega)
  have hn2 := h.1.2.1
  have hT1 := h.2.1.2.1
  have hT5 := h.2.1.2.2
  have hn8 := h.1.2.2
  by_cases h3 : x % 7 < 3
  · by_cases hm : mayP w (x % 7 + 2)
    · rw [dr_T h3 hm]; exact h.vkP (by omega) hm
    · rw [dr_F h3 hm]; exact VK.rf h
  · by_cases h3 : x % 7 = 3
    · by_cases hm : mayP w 0
      · rw [dr_3T h3 hm]; exact h.vkP (by omega) hm
      · rw [dr_3F h3 hm]; exact VK.rf h
    · by_cases h4 : x % 7 = 4
      · have := Nat.mod_lt x (show 0 < T by omega)
        rw [dr_4 h4 h]; exact h.vkS (iN_ti (by omega)) this
      · by_cases h5 : x % 7 = 5
        · by_cases hT : T < 5
          · have := Nat.mod_lt x (show 0 < n by omega)
            rw [dr_5T h5 h hT]; exact h.vkO hT (iN_ti (by omega)) this
          · rw [dr_5F h5 h hT]; exact VK.rf h
        · by_cases hT : 2 ≤ T
          · rw [dr_6T (by omega) h hT]; exact h.vkC hT
          · rw [dr_6F (by omega) h hT]; exact VK.rf h
end DRAW
theorem z_topL {E : pmE} {C : pmC} {pc : Nat} {lv : List (Option Value)} {st : List Value} {S : pmS} {I : pmI} {P : pmP} {ca sl : Nat} {x y : Int64} (h : x = y) (k : pmZ E C pc lv (.long y :: st) S I P ca sl) : pmZ E C pc lv (.long x :: st) S I P ca sl := by subst h; exact k
