/-! presses -/
def pT (w : Nat → Int32) : Nat := tn (w 1)
def pt (w : Nat → Int32) : Nat := tn (w 2)
def ps (w : Nat → Int32) : Nat := tn (w (47 + 10 * pt w))
def mayP (w : Nat → Int32) (d : Nat) : Prop := if d < 2 then (¬ w (44 + 10 * pt w) = 5 ∧ (if d = 0 then 0 < w (47 + 10 * pt w) else w (47 + 10 * pt w) + 1 < w (46 + 10 * pt w))) else (d - 2 < tn (w (4 + 5 * seeF w)) ∧ (¬ w (44 + 10 * pt w) = 3 ∨ pT w < 5))
def doP (w : Nat → Int32) (d : Nat) : Nat → Int32 := if d < 2 then goesF w (pt w) (iN d) else followsF w (pT w) (pt w) (ps w) (seeF w) (d - 2)
theorem Vd.pp {w : Nat → Int32} {n T t c : Nat} (h : Vd w n T t c) : pT w = T ∧ pt w = t := by
  obtain ⟨_, ⟨h1, _⟩, ⟨h2, _⟩, _⟩ := h
  unfold pT pt tn
  omega
theorem Nw.pse {w : Nat → Int32} {t s p : Nat} (h : Nw w t s p) : ps w = s ∧ pt w = t := by
  obtain ⟨h1, _, h2, _⟩ := h
  have e : pt w = t := by unfold pt tn; omega
  refine ⟨?_, e⟩
  unfold ps
  rw [e]
  unfold tn; omega
theorem step_off {w : Nat → Int32} {n T t c s i : Nat} {page : Int32} (h : Vd w n T t c) (hs : s < 6) (hi : i ≠ 1 ∧ i ≠ 2) (h2 : i < 44 + 10 * t ∨ 94 ≤ i) (hm : ¬ w (44 + 10 * t) = 3 ∨ T < 5) : stepW w T t s page i = w i := by
  have ht := h.2.2.1.2
  have hT := h.2.1.2.2
  unfold stepW
  split
  · next h3 =>
    have hT5 : T < 5 := hm.elim (fun z => absurd h3 z) id
    exact ins_at hi (by omega) (by omega)
  · exact comes_off hs (by omega)
theorem comes_kind {w : Nat → Int32} {t s : Nat} {page : Int32} : comesF w t s page (44 + 10 * t) = w (44 + 10 * t) := by
  unfold comesF
  split
  · split
    · next h5 => simp (disch := omega) only [freshF, va_ne', va_at']; exact h5.symm
    · simp (disch := omega) only [va_ne', cpy_off]
  · simp (disch := omega) only [va_ne']
/-- what a press keeps -/
theorem Vd.doK {w : Nat → Int32} {n T t c d : Nat} (h : Vd w n T t c) (hd : d < 5) (hm : mayP w d) : ∃ T' t', Vd (doP w d) n T' t' c ∧ (doP w d (44 + 10 * t') = 3 → T' = T ∧ t' = t ∧ w (44 + 10 * t) = 3) ∧ (doP w d 0 = w 0 ∧ ∀ p j, p < 8 → j < 4 → doP w d (4 + 5 * p + j) = w (4 + 5 * p + j)) := by
  obtain ⟨eT, et⟩ := h.pp
  obtain ⟨s, p, hN, hpn⟩ := h.nw
  have es := hN.pse.1
  have ep := hN.see
  unfold mayP at hm
  unfold doP
  simp only [eT, et, ep] at hm
  rw [eT, et, es, ep]
  by_cases hd2 : d < 2
  · rw [if_pos hd2] at hm ⊢
    have off : ∀ i, i ≠ 47 + 10 * t → goesF w t (iN d) i = w i := fun i hi => goes_off hi
    refine ⟨T, t, ?_, fun h3 => ⟨rfl, rfl, by rw [off _ (by omega)] at h3; exact h3⟩, off _ (by omega), fun p j _ _ => off _ (by omega)⟩
    have : d = 0 ∨ d = 1 := by omega
    rcases this with rfl | rfl
    · exact h.goB ⟨hm.1, by have := hm.2; rw [if_pos rfl] at this; exact this⟩
    · exact h.goF ⟨hm.1, by have := hm.2; rw [if_neg (by omega)] at this; exact this⟩
  · rw [if_neg hd2] at hm ⊢
    obtain ⟨c', e1, e2, e3, e4⟩ := h.2.2.2.2.1 p hpn
    have ec : tn (w (4 + 5 * p)) = c' := by unfold tn; omega
    obtain ⟨q, hq, hqn⟩ := e4 (d - 2) (by omega)
    have hV1 := h.step' hN.2.2.1 hq hqn hm.2
    have hV2 := h.follows' hN.2.2.1 hpn e1 (show d - 2 < c' by omega) hm.2
    obtain ⟨s', p', hN', hp'⟩ := hV1.nw
    have offv : ∀ i, i ≠ 8 + 5 * p' → followsF w T t s p (d - 2) i = stepW w T t s (w (5 + 5 * p + (d - 2))) i := fun i hi => by
      unfold followsF
      rw [hN'.see]
      exact va_ne' hi
    refine ⟨_, _, hV2, fun h3 => ?_, ?_, fun p1 j hp1 hj => ?_⟩
    · exfalso
      have htl := hV1.2.2.1.2
      have hTl := hV1.2.1.2.2
      rw [offv _ (by omega)] at h3
      unfold stepW tF at h3
      split at h3
      · next hk =>
        rw [show 44 + 10 * (t + 1) = 44 + 10 * (t + 1) from rfl] at h3
        unfold insF at h3
        rw [va_ne' (by omega), va_ne' (by omega)] at h3
        simp (disch := omega) only [freshF, va_ne', va_at'] at h3
        exact absurd h3 (by decide)
      · next hk => exact hk (by rw [comes_kind] at h3; exact h3)
    · rw [offv _ (by omega), step_off h hN.2.2.2.1 (by omega) (by omega) hm.2]
    · rw [offv _ (by omega), step_off h hN.2.2.2.1 (by omega) (by omega) hm.2]
/-- the first that is there -/
def fstN (f : Nat → Option (List Nat)) : Nat → Nat → Option (List Nat)
  | 0, _ => none
  | k + 1, d => match f d with
    | some x => some x
    | none => fstN f k (d + 1)
theorem fstN_some {f : Nat → Option (List Nat)} {x : List Nat} {e : Nat} : ∀ k d, d ≤ e → e < d + k → (∀ e', d ≤ e' → e' < e → f e' = none) → f e = some x → fstN f k d = some x := by
  intro k
  induction k with
  | zero => intro d h1 h2; omega
  | succ k ih =>
    intro d h1 h2 h3 h4
    by_cases hd : d = e
    · subst hd; simp only [fstN, h4]
    · simp only [fstN, h3 d (Nat.le_refl _) (by omega)]
      exact ih (d + 1) (by omega) (by omega) (fun e' a b => h3 e' (by omega) b) h4
theorem fstN_none {f : Nat → Option (List Nat)} : ∀ k d, (∀ e', d ≤ e' → e' < d + k → f e' = none) → fstN f k d = none := by
  intro k
  induction k with
  | zero => intro d _; rfl
  | succ k ih =>
    intro d h3
    simp only [fstN, h3 d (Nat.le_refl _) (by omega)]
    exact ih (d + 1) (fun e' a b => h3 e' (by omega) (by omega))
theorem fstN_cases {f : Nat → Option (List Nat)} : ∀ k d, (∃ e x, d ≤ e ∧ e < d + k ∧ (∀ e', d ≤ e' → e' < e → f e' = none) ∧ f e = some x) ∨ (∀ e', d ≤ e' → e' < d + k → f e' = none) := by
  intro k
  induction k with
  | zero => intro d; exact Or.inr (fun e' a b => by omega)
  | succ k ih =>
    intro d
    cases hf : f d with
    | some x => exact Or.inl ⟨d, x, Nat.le_refl _, by omega, fun e' a b => by omega, hf⟩
    | none =>
      rcases ih (d + 1) with ⟨e, x, h1, h2, h3, h4⟩ | h
      · refine Or.inl ⟨e, x, by omega, by omega, fun e' a b => ?_, h4⟩
        by_cases hd : e' = d
        · subst hd; exact hf
        · exact h3 e' (by omega) b
      · refine Or.inr (fun e' a b => ?_)
        by_cases hd : e' = d
        · subst hd; exact hf
        · exact h e' (by omega) (by omega)
noncomputable def srchD (g : (Nat → Int32) → Option (List Nat)) (w : Nat → Int32) (d : Nat) : Option (List Nat) := @ite _ (mayP w d) (Classical.propDecidable _) ((g (doP w d)).map (d :: ·)) none
noncomputable def srch (pg : Nat) : Nat → (Nat → Int32) → Option (List Nat)
  | 0, w => if seeF w = pg then some [] else none
  | k + 1, w => fstN (srchD (srch pg k) w) 5 0
def okS (pg : Nat) : (Nat → Int32) → List Nat → Prop
  | w, [] => seeF w = pg
  | w, d :: ds => mayP w d ∧ okS pg (doP w d) ds
def dgs : Nat → Nat → List Nat
  | 0, _ => []
  | k + 1, c => (c / 5 ^ k % 5) :: dgs k c
theorem dgs_len : ∀ k c, (dgs k c).length = k := by
  intro k
  induction k with
  | zero => intro c; rfl
  | succ k ih => intro c; show (dgs k c).length + 1 = _; rw [ih]
theorem dgs_add : ∀ k c e, dgs k (c + 5 ^ k * e) = dgs k c := by
  intro k
  induction k with
  | zero => intro c e; rfl
  | succ k ih =>
    intro c e
    show ((c + 5 ^ (k + 1) * e) / 5 ^ k % 5) :: dgs k (c + 5 ^ (k + 1) * e) = _
    have h : c + 5 ^ (k + 1) * e = c + 5 ^ k * (5 * e) := by rw [Nat.pow_succ, Nat.mul_assoc]
    rw [h, ih, Nat.add_mul_div_left _ _ (Nat.pow_pos (by omega)), Nat.add_mul_mod_self_left]
    rfl
theorem dgs_get : ∀ k c i, i < k → (dgs k c).getD i 0 = c / 5 ^ (k - 1 - i) % 5 := by
  intro k
  induction k with
  | zero => intro c i h; omega
  | succ k ih =>
    intro c i h
    cases i with
    | zero => rfl
    | succ i =>
      show (dgs k c).getD i 0 = _
      rw [ih c i (by omega)]
      congr 3; omega
theorem srchD_some {g : (Nat → Int32) → Option (List Nat)} {w : Nat → Int32} {d : Nat} {ds : List Nat} (hm : mayP w d) (h : g (doP w d) = some ds) : srchD g w d = some (d :: ds) := by
  unfold srchD; rw [if_pos hm, h]; rfl
theorem srchD_no {g : (Nat → Int32) → Option (List Nat)} {w : Nat → Int32} {d : Nat} (hm : ¬ mayP w d) : srchD g w d = none := by
  unfold srchD; rw [if_neg hm]
theorem srchD_none {g : (Nat → Int32) → Option (List Nat)} {w : Nat → Int32} {d : Nat} (h : g (doP w d) = none) : srchD g w d = none := by
  by_cases hm : mayP w d
  · unfold srchD; rw [if_pos hm, h]; rfl
  · exact srchD_no hm
theorem srch_code (pg : Nat) : ∀ k w, (∃ c, c < 5 ^ k ∧ srch pg k w = some (dgs k c) ∧ okS pg w (dgs k c) ∧ ∀ c', c' < c → ¬ okS pg w (dgs k c')) ∨ (srch pg k w = none ∧ ∀ c, c < 5 ^ k → ¬ okS pg w (dgs k c)) := by
  intro k
  induction k with
  | zero =>
    intro w
    by_cases h : seeF w = pg
    · exact Or.inl ⟨0, by decide, by simp only [srch, if_pos h]; rfl, h, fun c' h => by omega⟩
    · exact Or.inr ⟨by simp only [srch, if_neg h], fun c _ => h⟩
  | succ k ih =>
    intro w
    have hpos : 0 < 5 ^ k := Nat.pow_pos (by omega)
    have hps : 5 ^ (k + 1) = 5 ^ k * 5 := Nat.pow_succ ..
    have hsplit : ∀ c, dgs (k + 1) c = (c / 5 ^ k % 5) :: dgs k (c % 5 ^ k) := fun c => by
      show (c / 5 ^ k % 5) :: dgs k c = _
      congr 1
      have := dgs_add k (c % 5 ^ k) (c / 5 ^ k)
      rw [Nat.mod_add_div] at this
      exact this
    have hno : ∀ c e, c / 5 ^ k % 5 = e → srchD (srch pg k) w e = none → ¬ okS pg w (dgs (k + 1) c) := fun c e he hn hok => by
      rw [hsplit, he] at hok
      obtain ⟨hm, ho⟩ := hok
      have hsn : srch pg k (doP w e) = none := by
        cases hs : srch pg k (doP w e) with
        | none => rfl
        | some ds => rw [srchD_some hm hs] at hn; exact absurd hn (by simp)
      rcases ih (doP w e) with ⟨c0, a, b, _⟩ | ⟨_, b⟩
      · rw [hsn] at b; exact absurd b (by simp)
      · exact b _ (Nat.mod_lt _ hpos) ho
    rcases fstN_cases (f := srchD (srch pg k) w) 5 0 with ⟨e, x, h1, h2, h3, h4⟩ | h
    · left
      have hm : mayP w e := by
        by_cases hm : mayP w e
        · exact hm
        · rw [srchD_no hm] at h4; exact absurd h4 (by simp)
      rcases ih (doP w e) with ⟨c0, a, b, hok, hmin⟩ | ⟨b, _⟩
      · have hx := srchD_some (g := srch pg k) hm b
        have hq : (e * 5 ^ k + c0) / 5 ^ k = e := by
          rw [Nat.add_comm, Nat.add_mul_div_right _ _ hpos, Nat.div_eq_of_lt a]; omega
        have hr : (e * 5 ^ k + c0) % 5 ^ k = c0 := by
          rw [Nat.add_comm, Nat.add_mul_mod_self_right, Nat.mod_eq_of_lt a]
        have hd : dgs (k + 1) (e * 5 ^ k + c0) = e :: dgs k c0 := by
          rw [hsplit, hq, hr, Nat.mod_eq_of_lt (by omega)]
        refine ⟨e * 5 ^ k + c0, ?_, ?_, ?_, fun c' hc' => ?_⟩
        · have : e * 5 ^ k ≤ 4 * 5 ^ k := Nat.mul_le_mul_right _ (by omega)
          omega
        · rw [hd]; exact fstN_some 5 0 (by omega) (by omega) h3 hx
        · rw [hd]; exact ⟨hm, hok⟩
        · by_cases he : c' / 5 ^ k = e
          · intro hok'
            rw [hsplit, he, Nat.mod_eq_of_lt (by omega)] at hok'
            refine hmin (c' % 5 ^ k) ?_ hok'.2
            have := Nat.div_add_mod c' (5 ^ k)
            rw [he, Nat.mul_comm] at this
            omega
          · have hlt : c' / 5 ^ k < e := by
              have h9 : c' / 5 ^ k ≤ e := by
                have := Nat.div_le_div_right (c := 5 ^ k) (show c' ≤ e * 5 ^ k + c0 by omega)
                omega
              omega
            exact hno c' (c' / 5 ^ k) (Nat.mod_eq_of_lt (by omega)) (h3 _ (Nat.zero_le _) hlt)
      · rw [srchD_none b] at h4; exact absurd h4 (by simp)
    · right
      refine ⟨fstN_none 5 0 h, fun c hc => hno c _ rfl (h _ (Nat.zero_le _) ?_)⟩
      have := Nat.mod_lt (c / 5 ^ k) (show 0 < 5 by omega)
      omega
noncomputable def toS (w : Nat → Int32) (pg : Nat) : Option (List Nat) := fstN (fun L => srch pg L w) 5 0
def toV (o : Option (List Nat)) (k : Int32) : Int32 := match o with
  | none => -1000000
  | some ds => if k = -1 then iN ds.length else if k < iN ds.length then iN (ds.getD (tn k) 0) else -1000000
/-- a tab stands to a row, by the web g -/
def PR (I : pmI) (t g n : Nat) (w : Nat → Int32) (room : Prop) : Prop := ∃ T τ c, Vd w n T τ c ∧ TR I t w (44 + 10 * τ) ∧ WR I g w n ∧ (w (44 + 10 * τ) = 3 → (T < 5 ↔ room))
theorem PR.congr {I I' : pmI} {t t' g n : Nat} {w : Nat → Int32} {room : Prop} (h : PR I t g n w room) (e : ∀ k, g ≤ k → k < g + 3 → I' k = I k) (e1 : ∀ j, 1 ≤ j → j ≤ 4 → I' t' j = I t j) (e2 : ∀ j, j < 6 → I' (t' + 1) j = I (t + 1) j) : PR I' t' g n w room := by
  obtain ⟨T, τ, c, h1, ⟨a1, a2, a3, a4, a5⟩, h3, h4⟩ := h
  have hl := (h1.2.2.2.2.2.1 τ h1.2.2.1.2).l6
  refine ⟨T, τ, c, h1, ⟨by rw [e1 1 (by omega) (by omega)]; exact a1, by rw [e1 2 (by omega) (by omega)]; exact a2, by rw [e1 3 (by omega) (by omega)]; exact a3, by rw [e1 4 (by omega) (by omega)]; exact a4, fun j hj => by rw [e2 j (by omega)]; exact a5 j hj⟩, h3.congr e, h4⟩
section PRESS
variable {w : Nat → Int32} {n T t c s p : Nat}
theorem Vd.mayB (h : Vd w n T t c) : mayP w 0 ↔ (¬ w (44 + 10 * t) = 5 ∧ 0 < w (47 + 10 * t)) := by
  unfold mayP; rw [if_pos (by omega), if_pos rfl, h.pp.2]
theorem Vd.mayF (h : Vd w n T t c) : mayP w 1 ↔ (¬ w (44 + 10 * t) = 5 ∧ w (47 + 10 * t) + 1 < w (46 + 10 * t)) := by
  unfold mayP; rw [if_pos (by omega), if_neg (by omega), h.pp.2]
theorem Vd.mayL (h : Vd w n T t c) (hN : Nw w t s p) {cn d : Nat} (hc : (w (4 + 5 * p)).toInt = (cn : Int)) (hd : 2 ≤ d) : mayP w d ↔ (d - 2 < cn ∧ (¬ w (44 + 10 * t) = 3 ∨ T < 5)) := by
  have ec : tn (w (4 + 5 * p)) = cn := by unfold tn; omega
  unfold mayP; rw [if_neg (by omega), h.pp.2, h.pp.1, hN.see, ec]
theorem Vd.doG (h : Vd w n T t c) {d : Nat} (hd : d < 2) : doP w d = goesF w t (iN d) := by
  unfold doP; rw [if_pos hd, h.pp.2]
theorem Vd.doL (h : Vd w n T t c) (hN : Nw w t s p) {d : Nat} (hd : 2 ≤ d) : doP w d = followsF w T t s p (d - 2) := by
  unfold doP; rw [if_neg (by omega), h.pp.2, h.pp.1, hN.see, hN.pse.1]
theorem vis_off {v : Nat → Int32} {i q : Nat} (h : i ≠ 8 + 5 * q) : visF v q i = v i := va_ne' h
theorem Vd.doHi (h : Vd w n T t c) {d : Nat} (hd : d < 5) (hm : mayP w d) : ∀ i, 124 ≤ i → doP w d i = w i := by
  intro i hi
  have ht := h.2.2.1.2
  have hT := h.2.1.2.2
  obtain ⟨s, p, hN, hpn⟩ := h.nw
  by_cases hd2 : d < 2
  · rw [h.doG hd2]; exact goes_off (by omega)
  · obtain ⟨c', e1, e2, e3, e4⟩ := h.2.2.2.2.1 p hpn
    have hm2 := (h.mayL hN e1 (by omega)).mp hm
    obtain ⟨q, hq, hqn⟩ := e4 (d - 2) hm2.1
    have hV1 := h.step' hN.2.2.1 hq hqn hm2.2
    obtain ⟨s', p', hN', hp'⟩ := hV1.nw
    have hn8 := h.1.2.2
    rw [h.doL hN (by omega)]
    unfold followsF
    rw [hN'.see, vis_off (by omega)]
    exact step_off h hN.2.2.2.1 (by omega) (by omega) hm2.2
theorem Vd.cpy (h : Vd w n T t c) {old : Nat → Int32} : Vd (va_cpy w old 0 0 124) n T t c := by
  obtain ⟨⟨h0, hn2, hn8⟩, ⟨h1, hT1, hT5⟩, ⟨h2, ht⟩, ⟨h3, hc⟩, hl, htv, hcv, hv⟩ := h
  have e : ∀ i, i < 124 → va_cpy w old 0 0 124 i = w i := fun i hi => by rw [cpy_in (by omega)]; congr 1; omega
  exact ⟨⟨by rw [e _ (by omega)]; exact h0, hn2, hn8⟩, ⟨by rw [e _ (by omega)]; exact h1, hT1, hT5⟩, ⟨by rw [e _ (by omega)]; exact h2, ht⟩, ⟨by rw [e _ (by omega)]; exact h3, hc⟩, hl.congr hn8 (fun q j _ _ => e _ (by omega)), fun i hi => (htv i hi).congr (fun j _ => e _ (by omega)), fun i hi => (hcv i hi).congr (fun j _ => e _ (by omega)), hv.congr (fun q _ => e _ (by omega))⟩
end PRESS
theorem srch_len {pg k : Nat} {w : Nat → Int32} {ds : List Nat} (h : srch pg k w = some ds) : ds.length = k := by
  rcases srch_code pg k w with ⟨c, _, h2, _⟩ | ⟨h2, _⟩
  · rw [h] at h2; cases h2; exact dgs_len k c
  · rw [h] at h2; exact absurd h2 (by simp)
