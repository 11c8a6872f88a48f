/-! how a method is entered, and called -/
def pm_a1 (vs : List Value) : List (Option Value) := vs.flatMap fun v => if v.category = 2 then [some v, none] else [some v]
def pm_loc (vs : List Value) (n : Nat) : List (Option Value) := pm_a1 vs ++ List.replicate (n - (lg_sl vs).length) none
theorem pm_a1_len (vs : List Value) : (pm_a1 vs).length = (lg_sl vs).length := by
  induction vs with
  | nil => rfl
  | cons v vs ih =>
    simp only [pm_a1, lg_sl, List.flatMap_cons, List.length_append] at ih ⊢
    rw [ih]
    by_cases h : v.category = 2 <;> simp [h]
theorem pm_a1_at (vs : List Value) : ∀ (k i : Nat) (v : Value), (pm_a1 vs)[i]? = some (some v) → (k + i, v) ∈ lv_args k vs := by
  induction vs with
  | nil => intro k i v h; simp [pm_a1] at h
  | cons w vs ih =>
    intro k i v h
    simp only [pm_a1, List.flatMap_cons] at h
    by_cases hc : w.category = 2
    · simp only [hc, if_true, List.cons_append, List.nil_append] at h
      match i, h with
      | 0, h => simp at h; subst h; simp [lv_args]
      | 1, h => simp at h
      | i + 2, h =>
        simp at h
        have := ih (k + 2) i v h
        simp only [lv_args, hc, if_true]
        exact List.mem_cons_of_mem _ (by rw [show k + (i + 2) = k + 2 + i by omega]; exact this)
    · simp only [hc, if_false, List.cons_append, List.nil_append] at h
      match i, h with
      | 0, h => simp at h; subst h; simp [lv_args]
      | i + 1, h =>
        simp at h
        have := ih (k + 1) i v h
        simp only [lv_args, hc, if_false]
        exact List.mem_cons_of_mem _ (by rw [show k + (i + 1) = k + 1 + i by omega]; exact this)
theorem pm_loc_L {vs : List Value} {n : Nat} (h : (lg_sl vs).length ≤ n) : pm_L ((lg_sl vs ++ List.replicate (n - (lg_sl vs).length) Slot.unset).toArray) (pm_loc vs n) := by
  obtain ⟨h1, h2, h3⟩ := lv_entry vs h
  refine ⟨?_, h2, fun i v hv => ?_⟩
  · rw [h1]
    simp only [pm_loc, List.length_append, List.length_replicate, pm_a1_len]
    omega
  · unfold pm_loc at hv
    by_cases hi : i < (pm_a1 vs).length
    · rw [List.getElem?_append_left hi] at hv
      have := pm_a1_at vs 0 i v hv
      rw [Nat.zero_add] at this
      exact h3 (i, v) this
    · rw [List.getElem?_append_right (by omega)] at hv
      rw [List.getElem?_replicate] at hv
      split at hv <;> cases hv
/-- a method does what its body does -/
theorem pm_of {E : pmE} {d mc ms : Nat} {y : MethodName} {as : List Value} {S : pmS} {I : pmI} {P : pmP} {R : Option Value → pmS → pmI → pmP → Prop} {b : ByteArray} {maxL : Nat} {ret : Option FieldType}
    (hy : plainName y.cls = true) (hc : Cond.code y b maxL ret ∈ pm_tb) (hm : maxL ≤ 21) (hi : y.name = "<init>" → ret = none) (hlen : (lg_sl as).length ≤ maxL)
    (body : ∀ C : pmC, pm_G E C y.cls b maxL d mc ms → pm_R E C ret (S.1 + mc) mc ms R → pmZ E C 0 (pm_loc as maxL) [] S I P 0 0) : pmX E d mc ms y as S I P R := by
  refine ⟨b, maxL, ret, hc, hm, hi, Met.ofW (cc := b) (maxL := maxL) (ret := ret) hy rfl ?_⟩
  intro p e s m args below meth c s₁ B hml hv
  obtain ⟨rfl, hsz0, hH, hK, hZ, hN⟩ := hv
  have hts := atoms_spec (ws := Cond.code y b maxL ret :: pm_tb) B.pre
  have hL := pm_loc_L hlen
  rw [lg_entry_eq]
  have hsz : E.2.1 ≤ s.heap.size := by rw [hsz0]; exact Nat.le_add_right _ _
  exact body (p, e, pm_room d mc ms, s, m, as.toArray, below, meth, c, MQ below (pm_Q E (S.1 + mc) R) as.toArray s mc ms (pm_A E))
    ⟨B.exec, B.bytes, hml, findClass_of_methodNamed B.named, fun w hw => hts w (List.mem_cons_of_mem _ hw), hK, hZ, ⟨Nat.le_refl _, Nat.le_refl _, rfl, rfl⟩, hsz, B.notSynchronized, hN⟩
    ⟨B.returns, rfl, by show s.heap.size + mc = _; rw [hsz0]; omega⟩ s.heap [] _ hH va_S.rf hL (by show s.heap.size + 0 = _; rw [hsz0]; omega)
theorem pm_blind {E : pmE} {as : List Value} {S : pmS} {I : pmI} {P : pmP} : FrameBlind (pm_Pc E as S I P) := fun a U g mk q => by
  obtain ⟨q0, qs, qH, qK, qZ, qN⟩ := q
  exact ⟨q0, qs, qH, va_K.moved (u := U) (U := U.calling g mk a) (Vm.Alike.refl U.vm) qK, pm_Z.moved (u := U) (U := U.calling g mk a) (Vm.Alike.refl U.vm) qZ, pm_N.same rfl qN⟩
theorem pm_pre {E : pmE} {C : pmC} {as : List Value} {S : pmS} {I : pmI} {P : pmP} {H : Heap} {locs : List Loc} (hK : pm_K E C.s) (hZ : pm_Z E C.s C.s.heap) (hN : pm_N C.s) (hsz : H.size = E.2.1 + S.1) (hH : pm_H E S I P H) (hS : va_S (pm_A E) C.s.heap H locs) : ∀ U : State, U.heap = H → C.s.WarmedH U.vm → pm_Pc E as S I P as.toArray U := by
  intro U hU hW
  refine ⟨rfl, by rw [hU]; exact hsz, by rw [hU]; exact hH, va_K.moved hW.alike hK, pm_Z.moved hW.alike ?_, hN.warm hW⟩
  rw [hU]
  exact hZ.kept (fun a ha hn => hS.2.1 a ha hn)
/-- how large the heap is: as the cells say -/
theorem pm_lo {E : pmE} {S : pmS} {I : pmI} {P : pmP} {H : Heap} (hH : pm_H E S I P H) (h0 : E.2.1 ≤ H.size) : E.2.1 + S.1 ≤ H.size := by
  cases h : S.1 with
  | zero => simpa using h0
  | succ k =>
    have h1 := (hH k _ (pm_w_get (by omega))).lt
    dsimp only at h1
    omega
theorem pm_size {E : pmE} {C : pmC} {S : pmS} {I : pmI} {P : pmP} {H : Heap} {T : State} {locs : List Loc} {ca sl : Nat} (hT : T.heap = H) (X : Stand C.p E.1 C.e C.R C.s C.m C.a C.b C.t C.c T locs ca sl) (hH : pm_H E S I P H) (h0 : E.2.1 ≤ C.s.heap.size) (hS : va_S (pm_A E) C.s.heap H locs) (hn : C.s.heap.size + ca = E.2.1 + S.1) : H.size = E.2.1 + S.1 := by
  have h1 : T.heap.size ≤ C.s.heap.size + ca := X.same.2.2.1
  rw [hT] at h1
  have h2 := pm_lo hH (Nat.le_trans h0 hS.1)
  omega
/-- what comes behind a call -/
theorem pm_back {E : pmE} {C : pmC} {pc : Nat} {lv : List (Option Value)} {ls : Array Slot} {rest st0 : List Value} {as : Array Value} {R : Option Value → pmS → pmI → pmP → Prop} {H : Heap} {locs : List Loc} {ca sl mc ms n : Nat}
    (hr : va_Run C.p E.1 C.e C.R C.s C.m C.a C.b C.t C.c H locs ca sl mc ms (F0 C.m pc ls st0) rest (pm_Q E (n + mc) R as) (pm_A E)) (hn : C.s.heap.size + ca = E.2.1 + n) (hS : va_S (pm_A E) C.s.heap H locs) (hl : pm_L ls lv)
    (kk : ∀ (v : Option Value) (S : pmS) (I : pmI) (P : pmP), R v S I P → pmZ E C (pc + 3) lv (v.toList ++ rest) S I P (ca + mc) (sl + ms)) : W C.p E.1 C.e C.R C.s C.m C.a C.b C.t C.c H locs ca sl C.Q (F0 C.m pc ls st0) := by
  intro T hT X
  obtain ⟨v, st₀, t, T', L, h0, X', hL, e1, e2, ⟨⟨v', S, I, P, hv, hp, hb, hn'⟩, hz, hk⟩, st⟩ := hr T hT X
  cases hv
  rw [h0] at hz hk
  have hS' : va_S (pm_A E) C.s.heap T'.heap (locs ++ L) := by
    refine ⟨Nat.le_trans hS.1 (by rw [e1]; exact hz), fun q h1 h2 => ?_, fun q hq => ?_⟩
    · rw [e1, hk q (Nat.lt_of_lt_of_le h1 hS.1) h2]
      exact hS.2.1 q h1 h2
    · rcases List.mem_append.mp hq with h | h
      · exact hS.2.2 q h
      · exact hL q h
  obtain ⟨t2, a1, b1⟩ := kk v S I P hp T'.heap (locs ++ L) ls (by rw [e1]; exact hb) hS' hl (by rw [hn']; omega) T' rfl X'
  exact ⟨t2, st t2 a1, b1⟩
/-- a reference to a cell -/
def rr (E : pmE) (k : Nat) : Value := .ref (E.2.1 + k)
theorem pm_recv {E : pmE} {U : State} {S : pmS} {I : pmI} {P : pmP} {H : Heap} {k ci : Nat} {q : vw_C} (hK : pm_K E U) (hH : pm_H E S I P H) (hk : k < S.1) (hc : S.2.1 k = ci) (hc' : ci < 11) (hq : vwCl[ci]? = some q) : ∃ cell : Cell, H[E.2.1 + k]? = some cell ∧ cell.vm.isStatics = false ∧ U.vm.findClass q.1 = some cell.cls :=
  va_recv hK hH hq (by rw [pm_w_get hk, pm_cell_o hc hc'])
section CALLS
variable {E : pmE} {C : pmC} {own : String} {cc : ByteArray} {nL d mc0 ms0 : Nat} {pc : Nat} {lv : List (Option Value)} {S : pmS} {I : pmI} {P : pmP} {ca sl mc ms : Nat}
theorem pm_words (G : pm_G E C own cc nL d mc0 ms0) {y : MethodName} {b : ByteArray} {maxL : Nat} {ret : Option FieldType} (h : Cond.code y b maxL ret ∈ pm_tb) : ∀ w ∈ (Cond.code y b maxL ret :: pm_tb), ∀ (a' : Array Value) (U : State), C.s.WarmedH U.vm → w.before a' U = true := by
  have hin : ∀ w ∈ (Cond.code y b maxL ret :: pm_tb), w ∈ pm_tb := fun w hw => by
    rcases List.mem_cons.mp hw with rfl | hw
    · exact h
    · exact hw
  exact pay_in (big := pm_tb) G.2.2.2.2.1 (fun w hw => ⟨hin w hw, pm_tb_good (hin w hw)⟩)
theorem pm_CB (G : pm_G E C own cc nL (d + 1) mc0 ms0) {y : MethodName} {b : ByteArray} {maxL index n : Nat} {ret : Option FieldType} (h : Cond.code y b maxL ret ∈ pm_tb) (hm : maxL ≤ 21) (hl : Cond.methodLink own index y ∈ pm_tb) (hini : Cond.initialized y.cls ∈ pm_tb) (hd : y.cls ≠ "java/lang/invoke/MethodHandle" ∧ y.cls ≠ "java/lang/invoke/VarHandle" ∧ (parseMethodDescriptor y.desc).map (fun d => d.parameters.length) = some n) :
    CallB C.R C.s C.a own index y b maxL ret (Cond.code y b maxL ret :: pm_tb) (pm_room d mc ms) mc ms n := by
  have hts := G.2.2.2.2.1
  have hR := G.2.2.2.2.2.2.2.1
  refine ⟨rfl, rfl, hR.1, ?_, pm_words G h, List.mem_cons_self, hts _ h, hts _ hini, ⟨hd.1, hd.2.1⟩, fun sig hs => ?_, hts _ hl⟩
  · have := hR.2.1
    show 8 + (maxL + 11) + 40 * d ≤ _
    omega
  · have h2 := hd.2.2
    rw [hs] at h2
    exact (Option.some.inj h2).symm
theorem pm_fix (G : pm_G E C own cc nL d mc0 ms0) : CallFix C.p C.m C.c cc nL C.s C.a pm_tb own := ⟨G.1, G.2.1, G.2.2.1, G.2.2.2.1, G.2.2.2.2.1⟩
/-- a method of the class of a cell -/
def pm_lnk (own : String) (idx : Nat) (y : MethodName) (n : Nat) : Prop := Cond.methodLink own idx y ∈ pm_tb ∧ Cond.initialized y.cls ∈ pm_tb ∧ y.cls ≠ "java/lang/invoke/MethodHandle" ∧ y.cls ≠ "java/lang/invoke/VarHandle" ∧ (parseMethodDescriptor y.desc).map (fun d => d.parameters.length) = some n
def pm_lnV (own : String) (idx : Nat) (y : MethodName) (n ci : Nat) : Prop := pm_lnk own idx y n ∧ Cond.instanceMethod y ∈ pm_tb ∧ Cond.selects y.cls y y ∈ pm_tb ∧ ci < 11 ∧ ∃ q : vw_C, vwCl[ci]? = some q ∧ q.1 = y.cls
def pm_lnS (own : String) (idx : Nat) (y : MethodName) (n : Nat) : Prop := pm_lnk own idx y n ∧ Cond.static y ∈ pm_tb
theorem z_callV (G : pm_G E C own cc nL (d + 1) mc0 ms0) {idx n ci k : Nat} {y : MethodName} (L : pm_lnV own idx y n ci) (hdg : decode cc pc = .ok (.invokevirtual idx, 3)) {As rest st0 : List Value} (hst : st0 = As.reverse ++ rr E k :: rest) (hn : As.length = n) (hnL : lv.length = nL) (hW : (rest.map fun v => v.category).sum ≤ 8) (hf : ca + mc ≤ mc0 ∧ sl + ms ≤ ms0)
    (hk : k < S.1) (hc : S.2.1 k = ci) (h : pmX E d mc ms y (rr E k :: As) S I P (fun v S' I' P' => pmZ E C (pc + 3) lv (v.toList ++ rest) S' I' P' (ca + mc) (sl + ms))) : pmZ E C pc lv st0 S I P ca sl := by
  intro H locs ls hH hS hl hnn T hT X
  have hsz := pm_size hT X hH G.2.2.2.2.2.2.2.2.1 hS hnn
  obtain ⟨b, maxL, ret, h1, h2, -, hM⟩ := h
  obtain ⟨⟨l1, l2, l3, l4, l5⟩, l6, l7, l8, q, l9, l10⟩ := L
  have hts := G.2.2.2.2.1
  have hR := G.2.2.2.2.2.2.2.1
  refine pm_back (va_runV (As := As) (rest := rest) (b := E.2.1 + k) (C := y.cls) (n := n) (pm_fix G) hM ⟨pm_CB G h1 h2 l1 l2 ⟨l3, l4, l5⟩, hts _ l6, hts _ l7⟩ ⟨pm_blind, ?_, pm_pre G.2.2.2.2.2.1 G.2.2.2.2.2.2.1 G.2.2.2.2.2.2.2.2.2.2 hsz hH hS⟩ rfl hn (hl.1.trans hnL) hst (lv_room hW) hdg (by rw [hR.2.2.1, hR.2.2.2]; exact hf)) hnn hS hl (fun v S' I' P' q => q) T hT X
  rw [← l10]
  exact pm_recv G.2.2.2.2.2.1 hH hk hc l8 l9
theorem z_callS (G : pm_G E C own cc nL (d + 1) mc0 ms0) {idx n : Nat} {y : MethodName} (L : pm_lnS own idx y n) (hdg : decode cc pc = .ok (.invokestatic idx, 3)) {As rest st0 : List Value} (hst : st0 = As.reverse ++ rest) (hn : As.length = n) (hnL : lv.length = nL) (hW : (rest.map fun v => v.category).sum ≤ 8) (hf : ca + mc ≤ mc0 ∧ sl + ms ≤ ms0)
    (h : pmX E d mc ms y As S I P (fun v S' I' P' => pmZ E C (pc + 3) lv (v.toList ++ rest) S' I' P' (ca + mc) (sl + ms))) : pmZ E C pc lv st0 S I P ca sl := by
  intro H locs ls hH hS hl hnn T hT X
  have hsz := pm_size hT X hH G.2.2.2.2.2.2.2.2.1 hS hnn
  obtain ⟨b, maxL, ret, h1, h2, -, hM⟩ := h
  obtain ⟨⟨l1, l2, l3, l4, l5⟩, l6⟩ := L
  have hts := G.2.2.2.2.1
  have hR := G.2.2.2.2.2.2.2.1
  exact pm_back (va_runS (As := As) (rest := rest) (n := n) (pm_fix G) hM ⟨pm_CB G h1 h2 l1 l2 ⟨l3, l4, l5⟩, hts _ l6⟩ ⟨pm_blind, pm_pre G.2.2.2.2.2.1 G.2.2.2.2.2.2.1 G.2.2.2.2.2.2.2.2.2.2 hsz hH hS⟩ rfl hn (hl.1.trans hnL) hst (lv_room hW) hdg (by rw [hR.2.2.1, hR.2.2.2]; exact hf)) hnn hS hl (fun v S' I' P' q => q) T hT X
/-- a constructor -/
def pm_lnI (own : String) (idx : Nat) (y : MethodName) (n : Nat) : Prop := pm_lnk own idx y n ∧ Cond.instanceMethod y ∈ pm_tb ∧ y.name = "<init>"
theorem z_callI (G : pm_G E C own cc nL (d + 1) mc0 ms0) {idx n k : Nat} {y : MethodName} (L : pm_lnI own idx y n) (hdg : decode cc pc = .ok (.invokespecial idx, 3)) {As rest st0 : List Value} (hst : st0 = As.reverse ++ rr E k :: rest) (hn : As.length = n) (hnL : lv.length = nL) (hW : (rest.map fun v => v.category).sum ≤ 8) (hf : ca + mc ≤ mc0 ∧ sl + ms ≤ ms0)
    (h : pmX E d mc ms y (rr E k :: As) S I P (fun v S' I' P' => v = none ∧ pmZ E C (pc + 3) lv rest S' I' P' (ca + mc) (sl + ms))) : pmZ E C pc lv st0 S I P ca sl := by
  intro H locs ls hH hS hl hnn T hT X
  have hsz := pm_size hT X hH G.2.2.2.2.2.2.2.2.1 hS hnn
  obtain ⟨b, maxL, ret, h1, h2, h3, hM⟩ := h
  obtain ⟨⟨l1, l2, l3, l4, l5⟩, l6, l7⟩ := L
  obtain rfl := h3 l7
  have hts := G.2.2.2.2.1
  have hR := G.2.2.2.2.2.2.2.1
  refine pm_back (va_runI (As := As) (rest := rest) (b := E.2.1 + k) (n := n) (pm_fix G) hM ⟨pm_CB G h1 h2 l1 l2 ⟨l3, l4, l5⟩, l7, hts _ l6⟩ ⟨pm_blind, pm_pre G.2.2.2.2.2.1 G.2.2.2.2.2.2.1 G.2.2.2.2.2.2.2.2.2.2 hsz hH hS⟩ rfl hn (hl.1.trans hnL) hst (lv_room hW) hdg (by rw [hR.2.2.1, hR.2.2.2]; exact hf)) hnn hS hl (fun v S' I' P' q => ?_) T hT X
  obtain ⟨rfl, q⟩ := q
  exact q
end CALLS
