/-! the tape: its tokens, and what it tells, as functions of its bytes -/
abbrev isD (c : Int32) : Prop := 48 ≤ c ∧ c ≤ 57
def dEnd (tp : Nat → Int32) : Nat → Nat → Nat
  | 0, a => a
  | f + 1, a => if isD (tp a) then dEnd tp f (a + 1) else a
def tkD (tp : Nat → Int32) (a : Nat) : Nat := dEnd tp 80 a
/-- what a token is: -2 a number, -3 one of too many figures, -1 the end, else a byte -/
def tkT (tp : Nat → Int32) (a : Nat) : Int32 := if tkD tp a = a then tp a else if tkD tp a ≤ a + 2 then -2 else -3
def pvN (tp : Nat → Int32) (a i : Nat) : Nat := match i with
  | 0 => 0
  | 1 => tn (tp a) - 48
  | _ => 10 * (tn (tp a) - 48) + (tn (tp (a + 1)) - 48)
def tkN (tp : Nat → Int32) (a : Nat) : Nat := pvN tp a (tkD tp a - a)
def tkE (tp : Nat → Int32) (a : Nat) : Nat := if tkD tp a = a then a + 1 else tkD tp a
theorem dEnd_in {tp : Nat → Int32} : ∀ f a, a ≤ dEnd tp f a ∧ dEnd tp f a ≤ a + f ∧ ∀ i, a ≤ i → i < dEnd tp f a → isD (tp i) := by
  intro f
  induction f with
  | zero => intro a; exact ⟨Nat.le_refl _, Nat.le_refl _, fun i h1 h2 => absurd h2 (by show ¬ i < a; omega)⟩
  | succ f ih =>
    intro a
    show a ≤ (if isD (tp a) then dEnd tp f (a + 1) else a) ∧ (if isD (tp a) then dEnd tp f (a + 1) else a) ≤ a + (f + 1) ∧ ∀ i, a ≤ i → i < (if isD (tp a) then dEnd tp f (a + 1) else a) → isD (tp i)
    by_cases hd : isD (tp a)
    · rw [if_pos hd]
      obtain ⟨h1, h2, h3⟩ := ih (a + 1)
      refine ⟨by omega, by omega, fun i q1 q2 => ?_⟩
      by_cases hi : i = a
      · subst hi; exact hd
      · exact h3 i (by omega) q2
    · rw [if_neg hd]
      exact ⟨Nat.le_refl _, by omega, fun i h1 h2 => absurd h2 (by omega)⟩
theorem dEnd_out {tp : Nat → Int32} (ht : ∀ i, 80 ≤ i → ¬ isD (tp i)) : ∀ f a, 80 ≤ a + f → ¬ isD (tp (dEnd tp f a)) := by
  intro f
  induction f with
  | zero => intro a h; exact ht a (by omega)
  | succ f ih =>
    intro a h
    show ¬ isD (tp (if isD (tp a) then dEnd tp f (a + 1) else a))
    by_cases hd : isD (tp a)
    · rw [if_pos hd]; exact ih (a + 1) (by omega)
    · rw [if_neg hd]; exact hd
/-- a tape of L bytes -/
def TP (tp : Nat → Int32) (L : Nat) : Prop := L ≤ 80 ∧ (∀ i, i < L → ∃ b : Nat, (tp i).toInt = (b : Int) ∧ b ≤ 255) ∧ ∀ i, L ≤ i → tp i = -1
theorem TP.nd {tp : Nat → Int32} {L : Nat} (h : TP tp L) {i : Nat} (hi : L ≤ i) : ¬ isD (tp i) := by rw [h.2.2 i hi]; decide
theorem TP.D {tp : Nat → Int32} {L : Nat} (h : TP tp L) (a : Nat) : a ≤ tkD tp a ∧ tkD tp a ≤ a + 80 ∧ (∀ i, a ≤ i → i < tkD tp a → isD (tp i)) ∧ ¬ isD (tp (tkD tp a)) ∧ (a < tkD tp a → tkD tp a ≤ L) := by
  obtain ⟨h1, h2, h3⟩ := dEnd_in (tp := tp) 80 a
  refine ⟨h1, h2, h3, dEnd_out (tp := tp) (fun i hi => h.nd (i := i) (by have := h.1; omega)) 80 a (by omega), fun hlt => ?_⟩
  have hd := h3 (tkD tp a - 1) (by unfold tkD at *; omega) (by unfold tkD at *; omega)
  by_cases hL : tkD tp a ≤ L
  · exact hL
  · exact absurd hd (h.nd (by omega))
theorem isD_N {c : Int32} (h : isD c) : ∃ b : Nat, c.toInt = (b : Int) ∧ 48 ≤ b ∧ b ≤ 57 ∧ tn c = b := by
  obtain ⟨h1, h2⟩ := h
  simp only [ti_le, Int32.reduceToInt] at h1 h2
  exact ⟨c.toInt.toNat, by omega, by omega, by omega, rfl⟩
theorem TP.ne {tp : Nat → Int32} {L a : Nat} (h : TP tp L) (hne : ¬ tkT tp a = -1) : tkE tp a ≤ 80 := by
  obtain ⟨h1, _, _, _, h5⟩ := h.D a
  have := h.1
  unfold tkT at hne
  unfold tkE
  by_cases e : tkD tp a = a
  · rw [if_pos e] at hne ⊢
    by_cases hL : a < L
    · omega
    · exact absurd (h.2.2 a (by omega)) hne
  · rw [if_neg e]
    have := h5 (by omega)
    omega
theorem TP.N100 {tp : Nat → Int32} {L a : Nat} (h : TP tp L) (h2 : tkT tp a = -2) : tkN tp a < 100 ∧ a < tkD tp a ∧ tkD tp a ≤ a + 2 := by
  obtain ⟨h1, _, h3, h4, _⟩ := h.D a
  have hlt : a < tkD tp a ∧ tkD tp a ≤ a + 2 := by
    unfold tkT at h2
    by_cases e : tkD tp a = a
    · rw [if_pos e] at h2
      by_cases hL : a < L
      · obtain ⟨b, hb, _⟩ := h.2.1 a hL
        rw [h2, show ((-2 : Int32)).toInt = -2 from by decide] at hb
        omega
      · rw [h.2.2 a (by omega)] at h2
        exact absurd h2 (by decide)
    · rw [if_neg e] at h2
      by_cases e2 : tkD tp a ≤ a + 2
      · exact ⟨by omega, e2⟩
      · rw [if_neg e2] at h2
        exact absurd h2 (by decide)
  refine ⟨?_, hlt⟩
  obtain ⟨b, _, b1, b2, b3⟩ := isD_N (h3 a (Nat.le_refl _) hlt.1)
  unfold tkN
  have hc : tkD tp a - a = 1 ∨ tkD tp a - a = 2 := by omega
  rcases hc with hc | hc
  · rw [hc]; show tn (tp a) - 48 < 100; omega
  · rw [hc]
    obtain ⟨b', _, b1', b2', b3'⟩ := isD_N (h3 (a + 1) (by omega) (by omega))
    show 10 * (tn (tp a) - 48) + (tn (tp (a + 1)) - 48) < 100
    omega
/-- fault and place, or what was read -/
abbrev pR (α : Type) : Type := (Int32 × Nat) ⊕ α
def pB {α β : Type} (x : pR α) (f : α → pR β) : pR β := match x with
  | .inl e => .inl e
  | .inr v => f v
theorem pB_l {α β : Type} {x : pR α} {f : α → pR β} {e : Int32 × Nat} (h : x = .inl e) : pB x f = .inl e := by rw [h]; rfl
theorem pB_r {α β : Type} {x : pR α} {f : α → pR β} {v : α} (h : x = .inr v) : pB x f = f v := by rw [h]; rfl
theorem pB_inr {α β : Type} {x : pR α} {f : α → pR β} {v : β} (h : pB x f = .inr v) : ∃ u, x = .inr u ∧ f u = .inr v := by
  cases x with
  | inl e => cases h
  | inr u => exact ⟨u, rfl, h⟩
def pTake (tp : Nat → Int32) (c : Int32) (a : Nat) : pR Nat := if tkT tp a = c then .inr (tkE tp a) else .inl (1, a)
def pNum (tp : Nat → Int32) (lo hi a : Nat) : pR (Nat × Nat) := if tkT tp a = -2 then (if lo ≤ tkN tp a ∧ tkN tp a ≤ hi then .inr (tkE tp a, tkN tp a) else .inl (2, a)) else .inl (1, a)
def pLaw (tp : Nat → Int32) (a : Nat) : pR (Nat × Nat) := pB (pTake tp 119 a) fun a1 => pB (pNum tp 2 8 a1) fun q => pB (pTake tp 59 q.1) fun a3 => .inr (a3, q.2)
def linkW (w : Nat → Int32) (p j v : Nat) : Nat → Int32 := va_up (va_up w (4 + 5 * p) (iN (j + 1))) (5 + 5 * p + j) (iN v)
/-- the links of page p, from the one numbered j on, r at most -/
def pLk (tp : Nat → Int32) (n p : Nat) : Nat → Nat → Nat → (Nat → Int32) → pR (Nat × (Nat → Int32))
  | 0, _, a, w => .inr (a, w)
  | r + 1, j, a, w => if 0 < j ∧ ¬ tkT tp a = 44 then .inr (a, w) else pB (pNum tp 0 (n - 1) (if 0 < j then tkE tp a else a)) fun q => pLk tp n p r (j + 1) q.1 (linkW w p j q.2)
def pPage (tp : Nat → Int32) (n p a : Nat) (w : Nat → Int32) : pR (Nat × (Nat → Int32)) := pB (pLk tp n p 3 0 a w) fun q => pB (pTake tp 59 q.1) fun a3 => .inr (a3, q.2)
def pPg (tp : Nat → Int32) (n : Nat) : Nat → Nat → Nat → (Nat → Int32) → pR (Nat × (Nat → Int32))
  | 0, _, a, w => .inr (a, w)
  | r + 1, p, a, w => pB (pTake tp 108 a) fun a1 => pB (pPage tp n p a1 w) fun q => pPg tp n r (p + 1) q.1 q.2
def kdOf (t : Int32) : Nat := if t = 112 then 1 else if t = 115 then 2 else if t = 110 then 3 else if t = 103 then 4 else if t = 107 then 5 else 0
def tabW (w : Nat → Int32) (T k v : Nat) : Nat → Int32 := va_up (freshF w (44 + 10 * T) (iN k) (iN v)) 1 (iN (T + 1))
def pTab (tp : Nat → Int32) (n T a : Nat) (w : Nat → Int32) : pR (Nat × (Nat → Int32)) := if kdOf (tkT tp a) = 0 then .inl (1, a) else if T < 5 then (pB (pNum tp 0 (n - 1) (tkE tp a)) fun q => pB (pTake tp 59 q.1) fun a3 => .inr (a3, tabW w T (kdOf (tkT tp a)) q.2)) else .inl (3, a)
def pTb (tp : Nat → Int32) (n : Nat) : Nat → Nat → Nat → (Nat → Int32) → pR (Nat → Int32)
  | 0, _, a, _ => .inl (1, a)
  | f + 1, T, a, w => if 0 < T ∧ tkT tp a = -1 then .inr w else pB (pTab tp n T a w) fun q => pTb tp n f (T + 1) q.1 q.2
def w00 (n : Nat) : Nat → Int32 := va_up (fun _ => 0) 0 (iN n)
/-- what the tape tells -/
def pWeb (tp : Nat → Int32) : pR (Nat → Int32) := pB (pLaw tp 0) fun q => pB (pPg tp q.2 q.2 0 q.1 (w00 q.2)) fun q2 => pTb tp q.2 6 0 q2.1 q2.2
theorem pNum_in {tp : Nat → Int32} {lo hi a : Nat} {q : Nat × Nat} (h : pNum tp lo hi a = .inr q) : tkT tp a = -2 ∧ lo ≤ q.2 ∧ q.2 ≤ hi ∧ q.1 = tkE tp a ∧ q.2 = tkN tp a := by
  unfold pNum at h
  by_cases h1 : tkT tp a = -2
  · rw [if_pos h1] at h
    by_cases h2 : lo ≤ tkN tp a ∧ tkN tp a ≤ hi
    · rw [if_pos h2] at h
      cases h
      exact ⟨h1, h2.1, h2.2, rfl, rfl⟩
    · rw [if_neg h2] at h; cases h
  · rw [if_neg h1] at h; cases h
theorem pTake_in {tp : Nat → Int32} {c : Int32} {a a' : Nat} (h : pTake tp c a = .inr a') : tkT tp a = c ∧ a' = tkE tp a := by
  unfold pTake at h
  by_cases h1 : tkT tp a = c
  · rw [if_pos h1] at h
    cases h
    exact ⟨h1, rfl⟩
  · rw [if_neg h1] at h; cases h
theorem kdOf_5 (t : Int32) : kdOf t ≤ 5 := by
  unfold kdOf
  (repeat' split) <;> omega
theorem kdOf_ne {t : Int32} (h : ¬ kdOf t = 0) : 97 ≤ t ∧ t ≤ 122 := by
  unfold kdOf at h
  by_cases h1 : t = 112
  · rw [h1]; decide
  by_cases h2 : t = 115
  · rw [h2]; decide
  by_cases h3 : t = 110
  · rw [h3]; decide
  by_cases h4 : t = 103
  · rw [h4]; decide
  by_cases h5 : t = 107
  · rw [h5]; decide
  rw [if_neg h1, if_neg h2, if_neg h3, if_neg h4, if_neg h5] at h
  exact absurd rfl h
/-! what is told is a web -/
/-- the first k pages have their links -/
def VLk (w : Nat → Int32) (n k : Nat) : Prop := ∀ p, p < k → ∃ c : Nat, (w (4 + 5 * p)).toInt = (c : Int) ∧ 1 ≤ c ∧ c ≤ 3 ∧ ∀ j, j < c → ∃ q : Nat, (w (5 + 5 * p + j)).toInt = (q : Int) ∧ q < n
theorem linkW_off {w : Nat → Int32} {p j v i : Nat} (h1 : i ≠ 4 + 5 * p) (h2 : i ≠ 5 + 5 * p + j) : linkW w p j v i = w i := by
  unfold linkW; rw [va_ne' h2, va_ne' h1]
theorem pLk_keep {tp : Nat → Int32} {n p : Nat} : ∀ (r j a : Nat) (w : Nat → Int32) (q : Nat × (Nat → Int32)), j + r = 3 → pLk tp n p r j a w = .inr q → ∀ i, (i < 4 + 5 * p ∨ 8 + 5 * p ≤ i) → q.2 i = w i := by
  intro r
  induction r with
  | zero => intro j a w q _ h i _; cases h; rfl
  | succ r ih =>
    intro j a w q hj h i hi
    unfold pLk at h
    by_cases hc : 0 < j ∧ ¬ tkT tp a = 44
    · rw [if_pos hc] at h; cases h; rfl
    · rw [if_neg hc] at h
      obtain ⟨u, _, h2⟩ := pB_inr h
      rw [ih (j + 1) _ _ q (by omega) h2 i hi]
      exact linkW_off (by omega) (by omega)
theorem pLk_VL {tp : Nat → Int32} {n p : Nat} (hn : 1 ≤ n) (hn8 : n ≤ 8) : ∀ (r j a : Nat) (w : Nat → Int32) (q : Nat × (Nat → Int32)), j + r = 3 → (0 < j → (w (4 + 5 * p)).toInt = (j : Int)) → (∀ i, i < j → ∃ t : Nat, (w (5 + 5 * p + i)).toInt = (t : Int) ∧ t < n) → pLk tp n p r j a w = .inr q → ∃ c : Nat, (q.2 (4 + 5 * p)).toInt = (c : Int) ∧ 1 ≤ c ∧ c ≤ 3 ∧ ∀ i, i < c → ∃ t : Nat, (q.2 (5 + 5 * p + i)).toInt = (t : Int) ∧ t < n := by
  intro r
  induction r with
  | zero => intro j a w q hj h1 h2 h; cases h; exact ⟨j, h1 (by omega), by omega, by omega, h2⟩
  | succ r ih =>
    intro j a w q hj h1 h2 h
    unfold pLk at h
    by_cases hc : 0 < j ∧ ¬ tkT tp a = 44
    · rw [if_pos hc] at h; cases h; exact ⟨j, h1 hc.1, by omega, by omega, h2⟩
    · rw [if_neg hc] at h
      obtain ⟨u, hu, h3⟩ := pB_inr h
      obtain ⟨_, _, u2, _⟩ := pNum_in hu
      refine ih (j + 1) _ _ q (by omega) (fun _ => ?_) (fun i hi => ?_) h3
      · unfold linkW; rw [va_ne' (by omega), va_at' rfl]; exact iN_ti (by omega)
      · by_cases hij : i = j
        · subst hij
          unfold linkW; rw [va_at' rfl]; exact ⟨u.2, iN_ti (by omega), by omega⟩
        · rw [linkW_off (by omega) (by omega)]; exact h2 i (by omega)
theorem pPg_ok {tp : Nat → Int32} {n : Nat} (hn : 1 ≤ n) (hn8 : n ≤ 8) : ∀ (r p a : Nat) (w : Nat → Int32) (q : Nat × (Nat → Int32)), p + r = n → VLk w n p → pPg tp n r p a w = .inr q → VLk q.2 n n ∧ ∀ i, (i < 4 ∨ 44 ≤ i ∨ ∃ e, i = 8 + 5 * e) → q.2 i = w i := by
  intro r
  induction r with
  | zero =>
    intro p a w q hp hv h
    cases h
    obtain rfl : p = n := by omega
    exact ⟨hv, fun _ _ => rfl⟩
  | succ r ih =>
    intro p a w q hp hv h
    unfold pPg at h
    obtain ⟨a1, _, h2⟩ := pB_inr h
    obtain ⟨q1, hq1, h3⟩ := pB_inr h2
    unfold pPage at hq1
    obtain ⟨q2, hq2, h4⟩ := pB_inr hq1
    obtain ⟨a3, _, h5⟩ := pB_inr h4
    cases h5
    have hk := pLk_keep 3 0 a1 w q2 rfl hq2
    have hl := pLk_VL hn hn8 3 0 a1 w q2 rfl (fun z => absurd z (by omega)) (fun i z => absurd z (by omega)) hq2
    obtain ⟨z1, z2⟩ := ih (p + 1) _ _ q (by omega) (fun e he => by
      by_cases hep : e = p
      · subst hep; exact hl
      · obtain ⟨c, c1, c2, c3, c4⟩ := hv e (by omega)
        exact ⟨c, by rw [hk _ (by omega)]; exact c1, c2, c3, fun j hj => by rw [hk _ (by omega)]; exact c4 j hj⟩) h3
    refine ⟨z1, fun i hi => ?_⟩
    rw [z2 i hi]
    refine hk i ?_
    rcases hi with hi | hi | ⟨e, hi⟩
    · omega
    · omega
    · omega
/-- T tabs are told -/
def VT (w : Nat → Int32) (n T : Nat) : Prop := w 0 = iN n ∧ w 1 = iN T ∧ w 2 = 0 ∧ w 3 = 0 ∧ VLk w n n ∧ (∀ p, p < 8 → w (8 + 5 * p) = 0) ∧ ∀ i, i < T → TV w (44 + 10 * i) n ∧ w (46 + 10 * i) = 1
theorem tabW_off {w : Nat → Int32} {T k v i : Nat} (h1 : i ≠ 1) (h2 : i < 44 + 10 * T ∨ 49 + 10 * T ≤ i) : tabW w T k v i = w i := by
  unfold tabW; rw [va_ne' h1]; exact freshF_off (by omega)
theorem VT.tab {w : Nat → Int32} {n T k v : Nat} (h : VT w n T) (hn8 : n ≤ 8) (hT : T < 5) (hk : 1 ≤ k) (hk5 : k ≤ 5) (hv : v < n) : VT (tabW w T k v) n (T + 1) := by
  obtain ⟨h0, h1, h2, h3, h4, h5, h6⟩ := h
  refine ⟨by rw [tabW_off (by omega) (by omega)]; exact h0, by unfold tabW; rw [va_at' rfl], by rw [tabW_off (by omega) (by omega)]; exact h2, by rw [tabW_off (by omega) (by omega)]; exact h3, fun p hp => ?_, fun p hp => by rw [tabW_off (by omega) (by omega)]; exact h5 p hp, fun i hi => ?_⟩
  · obtain ⟨c, c1, c2, c3, c4⟩ := h4 p hp
    exact ⟨c, by rw [tabW_off (by omega) (by omega)]; exact c1, c2, c3, fun j hj => by rw [tabW_off (by omega) (by omega)]; exact c4 j hj⟩
  · by_cases hiT : i = T
    · subst hiT
      have ht : TV (freshF w (44 + 10 * i) (iN k) (iN v)) (44 + 10 * i) n := fresh_TV (iN_ti (by omega)) hk hk5 (iN_ti (by omega)) hv
      refine ⟨ht.congr (fun j hj => va_ne' (by omega)), ?_⟩
      unfold tabW; rw [va_ne' (by omega)]
      simp (disch := omega) only [freshF, va_ne', va_at']
    · obtain ⟨a, b⟩ := h6 i (by omega)
      exact ⟨a.congr (fun j hj => tabW_off (by omega) (by omega)), by rw [tabW_off (by omega) (by omega)]; exact b⟩
theorem pTab_in {tp : Nat → Int32} {n T a : Nat} {w : Nat → Int32} {q : Nat × (Nat → Int32)} (h : pTab tp n T a w = .inr q) : ¬ kdOf (tkT tp a) = 0 ∧ T < 5 ∧ ∃ v, v ≤ n - 1 ∧ q.2 = tabW w T (kdOf (tkT tp a)) v := by
  unfold pTab at h
  by_cases h1 : kdOf (tkT tp a) = 0
  · rw [if_pos h1] at h; cases h
  · rw [if_neg h1] at h
    by_cases h2 : T < 5
    · rw [if_pos h2] at h
      obtain ⟨u, hu, h3⟩ := pB_inr h
      obtain ⟨u2, _, h4⟩ := pB_inr h3
      cases h4
      exact ⟨h1, h2, u.2, (pNum_in hu).2.2.1, rfl⟩
    · rw [if_neg h2] at h; cases h
theorem pTab_VT {tp : Nat → Int32} {n T a : Nat} {w : Nat → Int32} {q : Nat × (Nat → Int32)} (hV : VT w n T) (hn : 1 ≤ n) (hn8 : n ≤ 8) (h : pTab tp n T a w = .inr q) : VT q.2 n (T + 1) := by
  obtain ⟨h1, h2, v, h3, h4⟩ := pTab_in h
  rw [h4]
  exact hV.tab hn8 h2 (by omega) (kdOf_5 _) (by omega)
theorem pTb_ok {tp : Nat → Int32} {n : Nat} (hn : 1 ≤ n) (hn8 : n ≤ 8) : ∀ (f T a : Nat) (w w' : Nat → Int32), T ≤ 5 → VT w n T → pTb tp n f T a w = .inr w' → ∃ T', 1 ≤ T' ∧ T' ≤ 5 ∧ VT w' n T' := by
  intro f
  induction f with
  | zero => intro T a w w' _ _ h; cases h
  | succ f ih =>
    intro T a w w' hT hV h
    unfold pTb at h
    by_cases hc : 0 < T ∧ tkT tp a = -1
    · rw [if_pos hc] at h; cases h; exact ⟨T, hc.1, hT, hV⟩
    · rw [if_neg hc] at h
      obtain ⟨q, hq, h2⟩ := pB_inr h
      have := (pTab_in hq).2.1
      exact ih (T + 1) _ _ w' (by omega) (pTab_VT hV hn hn8 hq) h2
theorem VT.vd {w : Nat → Int32} {n T : Nat} (h : VT w n T) (h2 : 2 ≤ n) (h8 : n ≤ 8) (hT : 1 ≤ T) (hT5 : T ≤ 5) : Vd w n T 0 0 := by
  obtain ⟨e0, e1, e2, e3, e4, e5, e6⟩ := h
  exact ⟨⟨by rw [e0]; exact iN_ti (by omega), h2, h8⟩, ⟨by rw [e1]; exact iN_ti (by omega), hT, hT5⟩, ⟨by rw [e2]; rfl, by omega⟩, ⟨by rw [e3]; rfl, by omega⟩, e4, fun i hi => (e6 i hi).1, fun i hi => absurd hi (by omega), fun p hp => ⟨0, by rw [e5 p hp]; rfl, by omega, fun _ => rfl⟩⟩
theorem pLaw_in {tp : Nat → Int32} {a : Nat} {q : Nat × Nat} (h : pLaw tp a = .inr q) : 2 ≤ q.2 ∧ q.2 ≤ 8 := by
  unfold pLaw at h
  obtain ⟨a1, _, h2⟩ := pB_inr h
  obtain ⟨u, hu, h3⟩ := pB_inr h2
  obtain ⟨a3, _, h4⟩ := pB_inr h3
  cases h4
  exact ⟨(pNum_in hu).2.1, (pNum_in hu).2.2.1⟩
theorem w00_VT {tp : Nat → Int32} {n a : Nat} {q : Nat × (Nat → Int32)} (hn : 2 ≤ n) (hn8 : n ≤ 8) (h : pPg tp n n 0 a (w00 n) = .inr q) : VT q.2 n 0 := by
  obtain ⟨h1, h2⟩ := pPg_ok (by omega) hn8 n 0 a (w00 n) q (by omega) (fun p hp => absurd hp (by omega)) h
  refine ⟨by rw [h2 0 (by omega)]; exact va_at' rfl, by rw [h2 1 (by omega)]; exact va_ne' (by omega), by rw [h2 2 (by omega)]; exact va_ne' (by omega), by rw [h2 3 (by omega)]; exact va_ne' (by omega), h1, fun p hp => by rw [h2 _ (Or.inr (Or.inr ⟨p, rfl⟩))]; exact va_ne' (by omega), fun i hi => absurd hi (by omega)⟩
theorem pTb_keep {tp : Nat → Int32} {n : Nat} : ∀ (f T a : Nat) (w w' : Nat → Int32), pTb tp n f T a w = .inr w' → ∀ i, i ≠ 1 → i < 44 → w' i = w i := by
  intro f
  induction f with
  | zero => intro T a w w' h; cases h
  | succ f ih =>
    intro T a w w' h i h1 h2
    unfold pTb at h
    by_cases hc : 0 < T ∧ tkT tp a = -1
    · rw [if_pos hc] at h; cases h; rfl
    · rw [if_neg hc] at h
      obtain ⟨q, hq, h3⟩ := pB_inr h
      obtain ⟨_, _, v, _, e⟩ := pTab_in hq
      rw [ih (T + 1) _ _ w' h3 i h1 h2, e]
      exact tabW_off h1 (by omega)
