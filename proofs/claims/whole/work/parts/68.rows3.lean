/-! rows for constructors: new cells, final fields, Object's constructor, nest mates' constructors -/
theorem pm_ofI {E : pmE} {d mc ms : Nat} {y : MethodName} {as : List Value} {S : pmS} {I : pmI} {P : pmP} {R : Option Value → pmS → pmI → pmP → Prop} {b : ByteArray} {maxL : Nat} {ret : Option FieldType}
    (hy : plainName y.cls = true) (hc : Cond.code y b maxL ret ∈ pm_tb) (hm : maxL ≤ 21) (hi : y.name = "<init>" → ret = none) (hlen : (lg_sl as).length ≤ maxL)
    (body : ∀ C : pmC, pm_G E C y.cls b maxL d mc ms → pm_R E C ret (S.1 + mc) mc ms R → C.t.name = y.name → pmZ E C 0 (pm_loc as maxL) [] S I P 0 0) : pmX E d mc ms y as S I P R := by
  refine ⟨b, maxL, ret, hc, hm, hi, Met.ofW (cc := b) (maxL := maxL) (ret := ret) hy rfl ?_⟩
  intro p e s m args below meth c s₁ B hml hv
  obtain ⟨rfl, hsz0, hH, hK, hZ, hN⟩ := hv
  have hts := atoms_spec (ws := Cond.code y b maxL ret :: pm_tb) B.pre
  have hL := pm_loc_L hlen
  rw [lg_entry_eq]
  have hsz : E.2.1 ≤ s.heap.size := by rw [hsz0]; exact Nat.le_add_right _ _
  exact body (p, e, pm_room d mc ms, s, m, as.toArray, below, meth, c, MQ below (pm_Q E (S.1 + mc) R) as.toArray s mc ms (pm_A E))
    ⟨B.exec, B.bytes, hml, findClass_of_methodNamed B.named, fun w hw => hts w (List.mem_cons_of_mem _ hw), hK, hZ, ⟨Nat.le_refl _, Nat.le_refl _, rfl, rfl⟩, hsz, B.notSynchronized, hN⟩
    ⟨B.returns, rfl, by show s.heap.size + mc = _; rw [hsz0]; omega⟩ (name_of_methodNamed B.named B.method).1 s.heap [] _ hH va_S.rf hL (by show s.heap.size + 0 = _; rw [hsz0]; omega)
def nwS (S : pmS) (c n : Nat) : pmS := (S.1 + 1, va_up S.2.1 S.1 c, va_up S.2.2 S.1 n)
def nwI (S : pmS) (I : pmI) : pmI := va_up I S.1 (fun _ => 0)
def nwP (S : pmS) (P : pmP) : pmP := va_up P S.1 (fun _ => none)
theorem pm_w_push {E : pmE} {S : pmS} {I : pmI} {P : pmP} {c n : Nat} : pm_w E (nwS S c n) (nwI S I) (nwP S P) = pm_w E S I P ++ [(E.2.1 + S.1, pm_cell E (nwS S c n) (nwI S I) (nwP S P) S.1)] := by
  unfold pm_w
  show (List.range (S.1 + 1)).map _ = _
  rw [List.range_succ, List.map_append]
  congr 1
  refine List.map_congr_left (fun k hk => ?_)
  have hk1 : k < S.1 := List.mem_range.mp hk
  have hk2 : k ≠ S.1 := by omega
  have e1 : (nwS S c n).2.1 k = S.2.1 k := va_up_ne _ _ hk2
  have e2 : (nwS S c n).2.2 k = S.2.2 k := va_up_ne _ _ hk2
  have e3 : nwI S I k = I k := va_up_ne _ _ hk2
  have e4 : nwP S P k = P k := va_up_ne _ _ hk2
  have e5 : pm_fv E (S.2.1 k) (nwI S I) (nwP S P) k = pm_fv E (S.2.1 k) I P k := by funext i; simp [pm_fv, e3, e4]
  simp [pm_cell, pm_fs, e1, e2, e3, e4, e5]
/-- a new cell -/
def Nw1 (S S1 : pmS) (I I1 : pmI) (P P1 : pmP) (c n : Nat) : Prop := S1.1 = S.1 + 1 ∧ (S1.2.1 S.1 = c ∧ S1.2.2 S.1 = n) ∧ I1 S.1 = (fun _ => 0) ∧ ∀ k, k ≠ S.1 → S1.2.1 k = S.2.1 k ∧ S1.2.2 k = S.2.2 k ∧ I1 k = I k ∧ P1 k = P k
theorem nw_Nw1 {S : pmS} {I : pmI} {P : pmP} {c n : Nat} : Nw1 S (nwS S c n) I (nwI S I) P (nwP S P) c n :=
  ⟨rfl, ⟨va_up_self _ _ _, va_up_self _ _ _⟩, va_up_self _ _ _, fun k hk => ⟨va_up_ne _ _ hk, va_up_ne _ _ hk, va_up_ne _ _ hk, va_up_ne _ _ hk⟩⟩
theorem pm_H_push {E : pmE} {S : pmS} {I : pmI} {P : pmP} {c n : Nat} {H H1 : Heap} (hH : pm_H E S I P H) (hsz : H.size = E.2.1 + S.1) (o1 : ∀ q, q < E.2.1 + S.1 → H1[q]? = H[q]?) (e : va_E) (he : pm_cell E (nwS S c n) (nwI S I) (nwP S P) S.1 = e) (hc : va_at E.2.2.1 vwCl (E.2.1 + S.1, e) H1) : pm_H E (nwS S c n) (nwI S I) (nwP S P) H1 := by
  unfold pm_H
  rw [pm_w_push, he]
  clear he
  have hk : ∀ (k : Nat) (x : Nat × va_E), (pm_w E S I P)[k]? = some x → H1[x.1]? = H[x.1]? := fun k x hx => o1 x.1 (by rw [← hsz]; exact (hH k x hx).lt)
  refine (va_P.kept hH hk).app (fun k x hx => ?_)
  have hz : k < 1 := (List.getElem?_eq_some_iff.mp hx).1
  rw [show k = 0 by omega] at hx
  cases hx
  exact hc
theorem pm_born {E : pmE} {S : pmS} {I : pmI} {P : pmP} {ci N : Nat} {t0 : Nat → FieldType} (hN : N = (pm_ts ci).length) (h : ∀ k, k < N → defaultValue (t0 k) = (if (pm_ts ci).getD k true = true then .int 0 else .null)) : ∀ j, j < N → defaultValue (t0 j) = vp_V (pm_fs E ci (nwI S I) (nwP S P) S.1) j := by
  intro j hj
  have e2 : (pm_fs E ci (nwI S I) (nwP S P) S.1)[j]? = some (pm_fv E ci (nwI S I) (nwP S P) S.1 j) := pm_fs_get (by omega)
  have e3 : nwI S I S.1 j = 0 := by unfold nwI; rw [va_up_self]
  have e4 : nwP S P S.1 j = none := by unfold nwP; rw [va_up_self]
  rw [h j hj]
  unfold vp_V
  rw [List.getD_eq_getElem?_getD (l := pm_fs E ci (nwI S I) (nwP S P) S.1), e2]
  unfold pm_fv
  rw [e3, e4]
  rfl
/-- a class that can be made -/
def pm_cls (own : String) (idx ci N : Nat) : Prop := ∃ (q : vw_C) (t0 : Nat → FieldType), vwCl[ci]? = some q ∧ ci < 11 ∧ q.2.2 = N ∧ N = (pm_ts ci).length ∧ (Cond.classLink own idx q.1 ∈ pm_tb ∧ Cond.instantiable q.1 N ∈ pm_tb ∧ Cond.initialized q.1 ∈ pm_tb) ∧ (∀ w ∈ u_ws q.1 q.2.1 q.2.2, w ∈ pm_tb) ∧ (∀ k, k < q.2.2 → parseFieldDescriptor (q.2.1 k).2.2.1 = some (t0 k)) ∧ ∀ k, k < N → defaultValue (t0 k) = (if (pm_ts ci).getD k true = true then .int 0 else .null)
section NEW
variable {E : pmE} {C : pmC} {own : String} {cc : ByteArray} {nL d mc0 ms0 : Nat} {pc : Nat} {lv : List (Option Value)} {st : List Value} {S : pmS} {I : pmI} {P : pmP} {ca sl : Nat}
theorem z_cs {ca' sl' : Nat} (h1 : ca = ca') (h2 : sl = sl') (k : pmZ E C pc lv st S I P ca' sl') : pmZ E C pc lv st S I P ca sl := by subst h1 h2; exact k
theorem pm_pushS {A : Nat → Prop} {H0 H H1 : Heap} {locs : List Loc} {h : Nat} (hS : va_S A H0 H locs) (hh : H.size = h) (z1 : H1.size = h + 1) (o1 : ∀ q, q < h → H1[q]? = H[q]?) : va_S A H0 H1 locs :=
  ⟨Nat.le_trans hS.1 (by omega), fun x h1 h2 => (o1 x (by have := hS.1; omega)).trans (hS.2.1 x h1 h2), hS.2.2⟩
set_option maxHeartbeats 100000 in
theorem z_newo (G : pm_G E C own cc nL d mc0 ms0) {idx ci N : Nat} (L : pm_cls own idx ci N) (hdg : decode cc pc = .ok (.new idx, 3)) (hf : ca + 1 ≤ mc0 ∧ sl + N ≤ ms0)
    (k : ∀ S1 I1 P1, Nw1 S S1 I I1 P P1 ci 0 → pmZ E C (pc + 3) lv (rr E S.1 :: st) S1 I1 P1 (ca + 1) (sl + N)) : pmZ E C pc lv st S I P ca sl := by
  intro H locs ls hH hS hl hnn T hT X
  have hsz := pm_size hT X hH G.2.2.2.2.2.2.2.2.1 hS hnn
  obtain ⟨⟨Cn, Tt, N'⟩, t0, l1, l2, l3, l4, ⟨l5, l6, l7⟩, l8, l9, l10⟩ := L
  dsimp only at l3 l5 l6 l7 l8 l9
  subst l3
  have hts := G.2.2.2.2.1
  have hR := G.2.2.2.2.2.2.2.1
  have hKn := G.2.2.2.2.2.1.1 ci _ l1
  have hcell : pm_cell E (nwS S ci 0) (nwI S I) (nwP S P) S.1 = .inr (ci, pm_fs E ci (nwI S I) (nwP S P) S.1) := pm_cell_o (va_up_self _ _ _) l2
  have hbn := pm_born (E := E) (S := S) (I := I) (P := P) l4 l10
  have key : W C.p E.1 C.e C.R C.s C.m C.a C.b C.t C.c H locs ca sl C.Q (F0 C.m pc ls st) := by
    refine W.newcK (C := Cn) (n := N') (g := F0 C.m pc ls st) G.1 G.2.1 G.2.2.2.1 (hts _ l5) (hts _ l6) (hts _ l7) rfl hdg (by rw [hR.2.2.1]; exact hf.1) (by rw [hR.2.2.2]; exact hf.2) (cC := E.2.2.1.1 ci) hKn.2.1 hsz (fun H1 kC hkC e1 z1 o1 => ?_)
    have hat : va_at E.2.2.1 vwCl (E.2.1 + S.1, .inr (ci, pm_fs E ci (nwI S I) (nwP S P) S.1)) H1 := by
      refine ⟨_, l1, (u_born t0 hts l8 hKn hkC e1 l9).to hbn⟩
    have hpp := pm_H_push hH hsz o1 _ hcell hat
    refine k _ _ _ nw_Nw1 H1 locs ls hpp (pm_pushS hS hsz z1 o1) hl ?_
    show C.s.heap.size + (ca + 1) = E.2.1 + (S.1 + 1)
    omega
  exact key T hT X
theorem pm_int {s : State} {a b : ClassId} {ty : FieldType} (h1 : va_RA s a ty) (h2 : s.vm.findClass ("[" ++ ty.toString) = some b) : b = a := by
  cases ty with
  | object Cn =>
    obtain ⟨_, _, _, _, _, h⟩ := h1
    exact Option.some.inj (h2.symm.trans h)
  | _ => exact Option.some.inj (h2.symm.trans h1)
theorem z_newi (G : pm_G E C own cc nL d mc0 ms0) {n : Int32} {N : Nat} (hw : Cond.arrayClass .int ∈ pm_tb) (hdg : decode cc pc = .ok (.newarray .int, 2)) (hn : n.toInt = (N : Int)) (hN : N ≤ 100000) (hf : ca + 1 ≤ mc0 ∧ sl + N ≤ ms0)
    (k : ∀ S1 I1 P1, Nw1 S S1 I I1 P P1 11 N → pmZ E C (pc + 2) lv (rr E S.1 :: st) S1 I1 P1 (ca + 1) (sl + N)) : pmZ E C pc lv (.int n :: st) S I P ca sl := by
  intro H locs ls hH hS hl hnn T hT X
  have hsz := pm_size hT X hH G.2.2.2.2.2.2.2.2.1 hS hnn
  have hts := G.2.2.2.2.1
  have hR := G.2.2.2.2.2.2.2.1
  have hRA := (G.2.2.2.2.2.1.2 0 (E.2.2.2.1 11, .int) rfl).2
  have hn1 : ¬ n < 0 := by rw [ti_lt]; simp only [Int32.reduceToInt]; omega
  have hn2 : n.toNatClampNeg = N := by show n.toInt.toNat = N; omega
  have hcell : pm_cell E (nwS S 11 N) (nwI S I) (nwP S P) S.1 = .inl (E.2.2.2.1 11, N, .inl (nwI S I S.1)) := pm_cell_i (va_up_self _ _ _) (by decide) (by decide) (va_up_self _ _ _)
  have key : W C.p E.1 C.e C.R C.s C.m C.a C.b C.t C.c H locs ca sl C.Q (F0 C.m pc ls (.int n :: st)) := by
    refine va_newaK (atype := .int) (g := F0 C.m pc ls (.int n :: st)) G.1 G.2.1 (hts _ hw) rfl hdg rfl hn1 hn2 (by show N * 4 ≤ 536870912; omega) (by rw [hR.2.2.1]; exact hf.1) (by rw [hR.2.2.2]; exact hf.2) hsz (fun H1 cA e1 z1 o1 hAr hNm => ?_)
    obtain rfl := pm_int hRA hNm
    have hat : va_at E.2.2.1 vwCl (E.2.1 + S.1, .inl (E.2.2.2.1 11, N, .inl (nwI S I S.1))) H1 := by
      show H1[E.2.1 + S.1]? = some (vp_cell _ _)
      rw [vp_cell_i, e1]
      have e3 : nwI S I S.1 = fun _ => 0 := va_up_self _ _ _
      rw [e3]
      rfl
    have hpp := pm_H_push hH hsz o1 _ hcell hat
    refine k _ _ _ nw_Nw1 H1 locs ls hpp (pm_pushS hS hsz z1 o1) hl ?_
    show C.s.heap.size + (ca + 1) = E.2.1 + (S.1 + 1)
    omega
  exact key T hT X
theorem z_newb (G : pm_G E C own cc nL d mc0 ms0) {n : Int32} {N : Nat} (hw : Cond.arrayClass .boolean ∈ pm_tb) (hdg : decode cc pc = .ok (.newarray .boolean, 2)) (hn : n.toInt = (N : Int)) (hN : N ≤ 100000) (hf : ca + 1 ≤ mc0 ∧ sl + N ≤ ms0)
    (k : ∀ S1 I1 P1, Nw1 S S1 I I1 P P1 12 N → pmZ E C (pc + 2) lv (rr E S.1 :: st) S1 I1 P1 (ca + 1) (sl + N)) : pmZ E C pc lv (.int n :: st) S I P ca sl := by
  intro H locs ls hH hS hl hnn T hT X
  have hsz := pm_size hT X hH G.2.2.2.2.2.2.2.2.1 hS hnn
  have hts := G.2.2.2.2.1
  have hR := G.2.2.2.2.2.2.2.1
  have hRA := (G.2.2.2.2.2.1.2 1 (E.2.2.2.1 12, .boolean) rfl).2
  have hn1 : ¬ n < 0 := by rw [ti_lt]; simp only [Int32.reduceToInt]; omega
  have hn2 : n.toNatClampNeg = N := by show n.toInt.toNat = N; omega
  have hcell : pm_cell E (nwS S 12 N) (nwI S I) (nwP S P) S.1 = .inl (E.2.2.2.1 12, N, .inl (nwI S I S.1)) := pm_cell_i (va_up_self _ _ _) (by decide) (by decide) (va_up_self _ _ _)
  have key : W C.p E.1 C.e C.R C.s C.m C.a C.b C.t C.c H locs ca sl C.Q (F0 C.m pc ls (.int n :: st)) := by
    refine va_newaK (atype := .boolean) (g := F0 C.m pc ls (.int n :: st)) G.1 G.2.1 (hts _ hw) rfl hdg rfl hn1 hn2 (by show N * 1 ≤ 536870912; omega) (by rw [hR.2.2.1]; exact hf.1) (by rw [hR.2.2.2]; exact hf.2) hsz (fun H1 cA e1 z1 o1 hAr hNm => ?_)
    obtain rfl := pm_int hRA hNm
    have hat : va_at E.2.2.1 vwCl (E.2.1 + S.1, .inl (E.2.2.2.1 12, N, .inl (nwI S I S.1))) H1 := by
      show H1[E.2.1 + S.1]? = some (vp_cell _ _)
      rw [vp_cell_i, e1]
      have e3 : nwI S I S.1 = fun _ => 0 := va_up_self _ _ _
      rw [e3]
      rfl
    have hpp := pm_H_push hH hsz o1 _ hcell hat
    refine k _ _ _ nw_Nw1 H1 locs ls hpp (pm_pushS hS hsz z1 o1) hl ?_
    show C.s.heap.size + (ca + 1) = E.2.1 + (S.1 + 1)
    omega
  exact key T hT X
/-- an array of references -/
theorem z_newq (G : pm_G E C own cc nL d mc0 ms0) {n : Int32} {N idx c : Nat} {Cn : String} (t0 : Nat) (ht : (pm_tys E)[t0]? = some (E.2.2.2.1 c, .object Cn)) (hc13 : ¬ c < 13) (hw : Cond.classLink own idx Cn ∈ pm_tb) (hov : ∀ s, pm_N s → va_AO Cn s) (hdg : decode cc pc = .ok (.anewarray idx, 3)) (hn : n.toInt = (N : Int)) (hN : N ≤ 100000) (hf : ca + 1 ≤ mc0 ∧ sl + N ≤ ms0)
    (k : ∀ S1 I1 P1, Nw1 S S1 I I1 P P1 c N → pmZ E C (pc + 3) lv (rr E S.1 :: st) S1 I1 P1 (ca + 1) (sl + N)) : pmZ E C pc lv (.int n :: st) S I P ca sl := by
  intro H locs ls hH hS hl hnn T hT X
  have hsz := pm_size hT X hH G.2.2.2.2.2.2.2.2.1 hS hnn
  have hts := G.2.2.2.2.1
  have hR := G.2.2.2.2.2.2.2.1
  have hRA := (G.2.2.2.2.2.1.2 t0 _ ht).2
  have hn1 : ¬ n < 0 := by rw [ti_lt]; simp only [Int32.reduceToInt]; omega
  have hn2 : n.toNatClampNeg = N := by show n.toInt.toNat = N; omega
  subst hn2
  have hcell : pm_cell E (nwS S c n.toNatClampNeg) (nwI S I) (nwP S P) S.1 = .inl (E.2.2.2.1 c, n.toNatClampNeg, .inr (.inr (.inr (.inr (fun j => pm_rv E (nwP S P S.1 j)))))) := pm_cell_q (va_up_self _ _ _) hc13 (va_up_self _ _ _)
  have key : W C.p E.1 C.e C.R C.s C.m C.a C.b C.t C.c H locs ca sl C.Q (F0 C.m pc ls (.int n :: st)) := by
    refine W.anew (C := Cn) (g := F0 C.m pc ls (.int n :: st)) G.1 G.2.1 G.2.2.2.1 (hts _ hw) (va_AO.use (hov _ G.2.2.2.2.2.2.2.2.2.2)) rfl hdg rfl hn1 (by omega) (by rw [hR.2.2.1]; exact hf.1) (by rw [hR.2.2.2]; exact hf.2) (fun cA kA comp f1 f2 f3 f4 => ?_)
    generalize hH1 : H.push ({ cls := cA, slots := Array.replicate n.toNatClampNeg .null, vm := .none } : Cell) = H1
    have z1 : H1.size = E.2.1 + S.1 + 1 := by rw [← hH1, Array.size_push, hsz]
    have e1 : H1[E.2.1 + S.1]? = some (arrV cA n.toNatClampNeg (fun _ => .null)) := by rw [← hH1, ← hsz, Array.getElem?_push_size, ← arrV_new]
    have o1 : ∀ q : Nat, q < E.2.1 + S.1 → H1[q]? = H[q]? := fun q hq => by rw [← hH1, Array.getElem?_push, if_neg (by rw [hsz]; omega)]
    obtain rfl := pm_int hRA f1
    have hat : va_at E.2.2.1 vwCl (E.2.1 + S.1, .inl (E.2.2.2.1 c, n.toNatClampNeg, .inr (.inr (.inr (.inr (fun j => pm_rv E (nwP S P S.1 j))))))) H1 := by
      show H1[E.2.1 + S.1]? = some (vp_cell _ _)
      rw [vp_cell_q, e1]
      have e3 : nwP S P S.1 = fun _ => none := va_up_self _ _ _
      rw [e3]
      rfl
    have hpp := pm_H_push hH hsz o1 _ hcell hat
    rw [hsz]
    refine k _ _ _ nw_Nw1 H1 locs ls hpp (pm_pushS hS hsz z1 o1) hl ?_
    show C.s.heap.size + (ca + 1) = E.2.1 + (S.1 + 1)
    omega
  exact key T hT X
/-- a final field of a constructor's own object -/
def PutR (P P1 : pmP) (a j q : Nat) : Prop := (∀ k, k ≠ a → P1 k = P k) ∧ (∀ i, i ≠ j → P1 a i = P a i) ∧ P1 a j = some q
def PutI (I I1 : pmI) (a j : Nat) (v : Int32) : Prop := (∀ k, k ≠ a → I1 k = I k) ∧ (∀ i, i ≠ j → I1 a i = I a i) ∧ I1 a j = v
theorem z_putR (G : pm_G E C own cc nL d mc0 ms0) (hin : C.t.name = "<init>") {idx ci j a q : Nat} {ty : FieldType} (L : pm_fl own idx ci j) (hown : ∃ r : vw_C, vwCl[ci]? = some r ∧ r.1 = own) (F : pm_ft ci j true ty) (hI : (pm_ts ci).getD j true = false) (hn : ∀ x, narrow ty (.ref x) = .ref x) (hfit : ∀ x, fits ty (.ref x) = true) (hdg : decode cc pc = .ok (.putfield idx, 3)) (ho : OB S a ci)
    (k : ∀ P1, PutR P P1 a j q → pmZ E C (pc + 3) lv st S I P1 ca sl) : pmZ E C pc lv (rr E q :: rr E a :: st) S I P ca sl := by
  intro H locs ls hH hS hl hn9
  obtain ⟨ha, hc⟩ := ho
  obtain ⟨⟨Cn, T, N⟩, l1, l2, l3, l4, l5, l6, l7⟩ := L
  obtain ⟨⟨Cn', T', N'⟩, t0, f1, f2, f3, f4, f5⟩ := F
  obtain ⟨⟨Cn2, T2, N2⟩, g1, g2⟩ := hown
  cases l1.symm.trans f1
  cases l1.symm.trans g1
  refine va_putF (D := E.2.2.1) (ci := ci) (v := rr E q) (C := Cn) (T := T) (N := N) (A := pm_A E) G.1 G.2.1 G.2.2.2.2.1 l6 t0 f2 f3 G.2.2.2.1 G.2.2.2.2.2.1 hH pm_w_D hS a (fs := pm_fs E ci I P a) (by rw [pm_w_get ha, pm_cell_o hc l2]) l1 j l3 (G.2.2.2.2.1 _ l5) (by rw [show (T j).1 = Cn from l7]; exact fun _ h9 => h9) f4 hin ((show (T j).1 = Cn from l7).trans g2) (ty := ty) (by rw [← f5]; exact f2 j l3) (hn _) (hfit _) (by simp only [pm_fs, List.length_map, List.length_range]; rw [← l4]; exact l3) hdg (fun H1 locs1 hP1 hD1 hS1 => ?_)
  have e : (pm_w E S I P).set a (E.2.1 + a, .inr (ci, (pm_fs E ci I P a).set j (rr E q))) = pm_w E S I (va_up P a (va_up (P a) j (some q))) := pm_w_set (by rw [pm_cell_o hc l2]; exact congrArg (fun z => Sum.inr (ci, z)) (pm_fs_setP (q := some q) hI).symm) (fun i hi => pm_cell_P hi)
  rw [e] at hP1
  exact k _ ⟨fun k hk => va_ne' hk, fun i hi => by rw [va_at' rfl, va_ne' hi], by rw [va_at' rfl, va_at' rfl]⟩ H1 locs1 ls hP1 hS1 hl hn9
theorem z_putJ (G : pm_G E C own cc nL d mc0 ms0) {idx ci j a : Nat} {ty : FieldType} {v : Int32} (L : pm_fl own idx ci j) (F : pm_ft ci j false ty) (hI : (pm_ts ci).getD j true = true) (hn : narrow ty (.int v) = .int v) (hfit : fits ty (.int v) = true) (hdg : decode cc pc = .ok (.putfield idx, 3)) (ho : OB S a ci) (k : ∀ I1, PutI I I1 a j v → pmZ E C (pc + 3) lv (st) S I1 P ca sl) : pmZ E C pc lv (.int v :: rr E a :: st) S I P ca sl :=
  z_putI G L F hI hn hfit hdg ho (k _ ⟨fun k hk => va_ne' hk, fun i hi => by rw [va_at' rfl, va_ne' hi], by rw [va_at' rfl, va_at' rfl]⟩)
theorem z_objI (G : pm_G E C own cc nL (d + 1) mc0 ms0) {idx a : Nat} (h1 : Cond.methodLink own idx objectInit ∈ pm_tb) (h2 : Cond.instanceMethod objectInit ∈ pm_tb) (h3 : Cond.code objectInit ⟨#[0xb1]⟩ 1 none ∈ pm_tb) (hdg : decode cc pc = .ok (.invokespecial idx, 3)) (hnL : lv.length = nL) (hW : (st.map fun v => v.category).sum ≤ 8)
    (k : pmZ E C (pc + 3) lv st S I P ca sl) : pmZ E C pc lv (rr E a :: st) S I P ca sl := by
  intro H locs ls hH hS hl hn9
  have hts := G.2.2.2.2.1
  have hR := G.2.2.2.2.2.2.2.1
  have hr := lv_room (m := C.m) (pc := pc) (ls := ls) (rest := rr E a :: st) hW
  exact W.objInit (g := F0 C.m pc ls (rr E a :: st)) G.1 G.2.1 G.2.2.2.1 (hts _ h1) (hts _ h2) (hts _ h3) rfl (by rw [G.2.2.1, ← hnL]; exact hl.1) rfl hdg (by have := hR.1; omega) (by have := hR.2.1; omega) (k H locs ls hH hS hl hn9)
/-- a nest mate's constructor -/
theorem z_callIN (G : pm_G E C own cc nL (d + 1) mc0 ms0) {idx k mc ms : Nat} {y : MethodName} {host : String} (hlk : (own, idx, y, host) ∈ pm_nm) (hin : Cond.initialized y.cls ∈ pm_tb) (him : Cond.instanceMethod y ∈ pm_tb) (hyn : y.name = "<init>") (hd : y.cls ≠ "java/lang/invoke/MethodHandle" ∧ y.cls ≠ "java/lang/invoke/VarHandle" ∧ (parseMethodDescriptor y.desc).map (fun d => d.parameters.length) = some 0) (hdg : decode cc pc = .ok (.invokespecial idx, 3)) {rest : List Value} (hnL : lv.length = nL) (hW : (rest.map fun v => v.category).sum ≤ 8) (hf : ca + mc ≤ mc0 ∧ sl + ms ≤ ms0)
    (h : pmX E d mc ms y [rr E k] S I P (fun v S' I' P' => v = none ∧ pmZ E C (pc + 3) lv rest S' I' P' (ca + mc) (sl + ms))) : pmZ E C pc lv (rr E k :: rest) S I P ca sl := by
  intro H locs ls hH hS hl hnn T hT X
  have hsz := pm_size hT X hH G.2.2.2.2.2.2.2.2.1 hS hnn
  obtain ⟨b, maxL, ret, h1, h2, h3, hM⟩ := h
  obtain rfl := h3 hyn
  have hts := G.2.2.2.2.1
  have hR := G.2.2.2.2.2.2.2.1
  have hgood : GoodIn pm_tb (Cond.code y b maxL none :: pm_tb) := fun w hw => by
    have : w ∈ pm_tb := by
      rcases List.mem_cons.mp hw with rfl | hw
      · exact h1
      · exact hw
    exact ⟨this, pm_tb_good this⟩
  have cw : va_CN C.R C.s C.a own idx y host b maxL none (Cond.code y b maxL none :: pm_tb) (pm_room d mc ms) mc ms 0 :=
    va_cnB 0 hts hgood rfl rfl rfl (G.2.2.2.2.2.2.2.2.2.2.2.1 (own, idx, y, host) hlk) (hts _ hin) hd ⟨hR.1, by have := hR.2.1; show 8 + (maxL + 11) + 40 * d ≤ _; omega⟩
  refine pm_back (va_runIN (As := []) (rest := rest) (b := E.2.1 + k) (n := 0) (pm_fix G) hM ⟨cw, hyn, hts _ him⟩ ⟨pm_blind, pm_pre G.2.2.2.2.2.1 G.2.2.2.2.2.2.1 G.2.2.2.2.2.2.2.2.2.2 hsz hH hS⟩ rfl rfl (hl.1.trans hnL) rfl (lv_room hW) hdg (by rw [hR.2.2.1, hR.2.2.2]; exact hf)) hnn hS hl (fun v S' I' P' q => ?_) T hT X
  obtain ⟨rfl, q⟩ := q
  exact q
end NEW
