/-! a press on a tab, as the row tells it -/
theorem TR.vis {I : pmI} {t a q : Nat} {w : Nat → Int32} (h : TR I t w (44 + 10 * a)) (hl : (w (44 + 10 * a + 2)).toInt ≤ 6) (hq : q < 8) : TR I t (visF w q) (44 + 10 * a) := h.congrW (fun i hi => vis_off (by omega)) hl
theorem TR.followN {I : pmI} {tt n T t c s p j q : Nat} {w : Nat → Int32} (hV : Vd w n T t c) (hs : (w (47 + 10 * t)).toInt = (s : Int)) (hq : (w (5 + 5 * p + j)).toInt = (q : Int)) (hqn : q < n) (hk : ¬ w (44 + 10 * t) = 3) (hT : TR I tt (comesF w t s (w (5 + 5 * p + j))) (44 + 10 * t)) : TR I tt (followsF w T t s p j) (44 + 10 * tF w t) := by
  have hV1 := hV.step' hs hq hqn (Or.inl hk)
  obtain ⟨s', p', hN', hp'⟩ := hV1.nw
  have hn8 := hV.1.2.2
  have e : stepW w T t s (w (5 + 5 * p + j)) = comesF w t s (w (5 + 5 * p + j)) := by unfold stepW; rw [if_neg hk]
  have e2 : tF w t = t := by unfold tF; rw [if_neg hk]
  have hl := (hV1.2.2.2.2.2.1 _ hV1.2.2.1.2).l6
  unfold followsF
  rw [hN'.see, e2]
  rw [e2] at hl
  rw [e] at hl ⊢
  exact hT.vis hl (by omega)
theorem TR.followP {I : pmI} {tt n T t c s p j q : Nat} {w : Nat → Int32} (hV : Vd w n T t c) (hs : (w (47 + 10 * t)).toInt = (s : Int)) (hq : (w (5 + 5 * p + j)).toInt = (q : Int)) (hqn : q < n) (hk : w (44 + 10 * t) = 3) (hT5 : T < 5) (hT : ∀ u k, TR I tt (freshF u k 1 (w (5 + 5 * p + j))) k) : TR I tt (followsF w T t s p j) (44 + 10 * tF w t) := by
  have hV1 := hV.step' hs hq hqn (Or.inr hT5)
  obtain ⟨s', p', hN', hp'⟩ := hV1.nw
  have hn8 := hV.1.2.2
  have e : stepW w T t s (w (5 + 5 * p + j)) = insF w T (t + 1) (w 2 + 1) (w (5 + 5 * p + j)) := by unfold stepW; rw [if_pos hk]
  have e2 : tF w t = t + 1 := by unfold tF; rw [if_pos hk]
  have hl := (hV1.2.2.2.2.2.1 _ hV1.2.2.1.2).l6
  unfold followsF
  rw [hN'.see, e2]
  rw [e2] at hl
  rw [e] at hl ⊢
  refine TR.vis ?_ hl (by omega)
  unfold insF
  refine (hT (va_cpy w w (44 + 10 * (t + 1)) (54 + 10 * (t + 1)) (10 * (T - (t + 1)))) (44 + 10 * (t + 1))).congrW (fun i hi => by rw [va_ne' (by omega), va_ne' (by omega)]) ?_
  have e3 : freshF (va_cpy w w (44 + 10 * (t + 1)) (54 + 10 * (t + 1)) (10 * (T - (t + 1)))) (44 + 10 * (t + 1)) 1 (w (5 + 5 * p + j)) (44 + 10 * (t + 1) + 2) = 1 := by simp (disch := omega) only [freshF, va_ne', va_at']
  rw [e3]; decide
theorem PR.next {I I' : pmI} {tt g n T t c d : Nat} {w : Nat → Int32} {room : Prop} (hV : Vd w n T t c) (hrm : w (44 + 10 * t) = 3 → (T < 5 ↔ room)) (hW : WR I g w n) (hd : d < 5) (hm : mayP w d) (hF : Fr2 I I' tt) (hap : tt + 1 < g ∨ g + 2 < tt) (hT : ∀ T' t', Vd (doP w d) n T' t' c → TR I' tt (doP w d) (44 + 10 * t')) : PR I' tt g n (doP w d) room := by
  obtain ⟨T', t', h1, h2, h3, h4⟩ := hV.doK hd hm
  refine ⟨T', t', c, h1, hT T' t' h1, ?_, fun h5 => ?_⟩
  · exact (hW.congr (fun k _ _ => hF k (by omega) (by omega))).congrW hV.2.2.2.2.1 hV.1.2.2 h3 h4
  · obtain ⟨a, _, b⟩ := h2 h5
    rw [a]; exact hrm b
def FrS (I I' : pmI) (depth : Nat) : Prop := (∀ k, k ≠ 554 → (k < 586 + 2 * depth ∨ 594 ≤ k) → I' k = I k) ∧ ∀ j, j < depth → I' 554 j = I 554 j
def FrF (I I' : pmI) : Prop := ∀ k, k ≠ 554 → (k < 584 ∨ 594 ≤ k) → I' k = I k
def Fr8 (I I' : pmI) (m : Nat) : Prop := ∀ k, k ≠ m + 8 → k ≠ m + 14 → I' k = I k
def PTS (E : pmE) (S : pmS) (P : pmP) (n pg len D r : Nat) (rm : Int32) (room : Prop) : Prop :=
  ∀ (I : pmI) (R : Option Value → pmS → pmI → pmP → Prop) (depth : Nat) (w : Nat → Int32), depth + r = len → PR I (584 + 2 * depth) 27 n w room →
    (∀ ds, srch pg r w = some ds → ∀ I', FrS I I' depth → (∀ i, i < r → I' 554 (depth + i) = iN (ds.getD i 0)) → R (some (.int 1)) S I' P) →
    (srch pg r w = none → ∀ I', FrS I I' depth → R (some (.int 0)) S I' P) →
    pmX E D 0 0 yX2_pressedTo [rr E 553, rr E 27, .int (iN pg), .int rm, .int (iN depth), .int (iN len)] S I P R
theorem z_top2 {E : pmE} {C : _} {pc : Nat} {lv : List (Option Value)} {st : List Value} {S : pmS} {I : pmI} {P : pmP} {ca sl : Nat} {x y : Int32} {v : Value} (h : x = y) (k : pmZ E C pc lv (v :: .int y :: st) S I P ca sl) : pmZ E C pc lv (v :: .int x :: st) S I P ca sl := by subst h; exact k
