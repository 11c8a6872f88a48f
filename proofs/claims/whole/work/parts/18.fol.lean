def seeF (x : Nat → Int32) : Nat := tn (x (48 + 10 * tn (x 2) + tn (x (47 + 10 * tn (x 2)))))
theorem Nw.see {x : Nat → Int32} {t s p : Nat} (h : Nw x t s p) : seeF x = p := by
  obtain ⟨h1, _, h2, _, h3, _⟩ := h
  have e1 : tn (x 2) = t := by unfold tn; omega
  have e2 : tn (x (47 + 10 * t)) = s := by unfold tn; omega
  have e3 : tn (x (48 + 10 * t + s)) = p := by unfold tn; omega
  unfold seeF
  rw [e1, e2, e3]
/-- the row ahead of the visit, when a link that leads to a page is followed -/
def stepW (w : Nat → Int32) (T t s : Nat) (page : Int32) : Nat → Int32 := if w (44 + 10 * t) = 3 then insF w T (t + 1) (w 2 + 1) page else comesF w t s page
def followsF (w : Nat → Int32) (T t s p j : Nat) : Nat → Int32 := visF (stepW w T t s (w (5 + 5 * p + j))) (seeF (stepW w T t s (w (5 + 5 * p + j))))
def opensF (w : Nat → Int32) (T : Nat) (page : Int32) : Nat → Int32 := visF (insF w T T (w 1) page) (seeF (insF w T T (w 1) page))
theorem Vd.step {w : Nat → Int32} {n T t c s q : Nat} {page : Int32} (h : Vd w n T t c) (hs : (w (47 + 10 * t)).toInt = (s : Int)) (hq : page.toInt = (q : Int)) (hqn : q < n) (hm : ¬ w (44 + 10 * t) = 3 ∨ T < 5) : ∃ T' t', Vd (stepW w T t s page) n T' t' c := by
  unfold stepW
  split
  · next h3 =>
    have hT5 : T < 5 := hm.elim (fun z => absurd h3 z) id
    have ht := h.2.2.1
    exact ⟨T + 1, t + 1, h.ins hT5 (by rw [iN_of ht.1, iN_lit, iN_add]; exact iN_ti (by omega)) (by omega) hq hqn⟩
  · exact ⟨T, t, h.comes hs hq hqn⟩
theorem Vd.follows {w : Nat → Int32} {n T t c s p cn j : Nat} (h : Vd w n T t c) (hs : (w (47 + 10 * t)).toInt = (s : Int)) (hp : p < n) (hc : (w (4 + 5 * p)).toInt = (cn : Int)) (hj : j < cn) (hm : ¬ w (44 + 10 * t) = 3 ∨ T < 5) : ∃ T' t', Vd (followsF w T t s p j) n T' t' c := by
  obtain ⟨c', e1, e2, e3, e4⟩ := h.2.2.2.2.1 p hp
  obtain ⟨q, hq, hqn⟩ := e4 j (by omega)
  obtain ⟨T', t', hV⟩ := h.step hs hq hqn hm
  obtain ⟨s', p', hN, hp'⟩ := hV.nw
  refine ⟨T', t', ?_⟩
  unfold followsF
  rw [hN.see]
  exact hV.vis hp'
theorem Vd.opens {w : Nat → Int32} {n T t c q : Nat} {page : Int32} (h : Vd w n T t c) (hT : T < 5) (hq : page.toInt = (q : Int)) (hqn : q < n) : Vd (opensF w T page) n (T + 1) T c := by
  have hV := h.ins hT h.2.1.1 (Nat.le_refl _) hq hqn
  obtain ⟨s', p', hN, hp'⟩ := hV.nw
  unfold opensF
  rw [hN.see]
  exact hV.vis hp'
