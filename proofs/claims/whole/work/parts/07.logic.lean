/-! THE PURE MACHINE: the heap from the base on as numbered cells with ints (I) and references to cells (P); rows over it -/
def pm_tb : List Cond := lw_tbl.filter goodWord
theorem pm_tb_mem {w : Cond} (h : w ∈ lw_tbl) (g : goodWord w = true) : w ∈ pm_tb := List.mem_filter.mpr ⟨h, g⟩
theorem pm_tb_t {w : Cond} (i : Nat) (h : tables_1[i]? = some w) (g : goodWord w = true) : w ∈ pm_tb := pm_tb_mem (List.mem_append_right _ (List.mem_of_getElem? h)) g
theorem pm_tb_s {w : Cond} (i : Nat) (h : (k2_sels lw_privs)[i]? = some w) (g : goodWord w = true) : w ∈ pm_tb := pm_tb_mem (List.mem_append_left _ (List.mem_of_getElem? h)) g
theorem pm_tb_good {w : Cond} (h : w ∈ pm_tb) : (w.onTables && w.keeps) = true ∨ ∃ ty, w = .arrayClass ty := good_of_word (List.mem_filter.mp h).2
/-- launch, base, classes and slots, array classes, the static tables' addresses -/
abbrev pmE : Type := Launch × Nat × va_G × (Nat → ClassId) × (Nat → Nat)
/-- how many cells, the kind of each, the length of each -/
abbrev pmS : Type := Nat × (Nat → Nat) × (Nat → Nat)
abbrev pmI : Type := Nat → Nat → Int32
abbrev pmP : Type := Nat → Nat → Option Nat
/-- which fields of a class are ints -/
def pm_ts (c : Nat) : List Bool := match c with
  | 0 => [false, true, true]
  | 1 => [false, false, false, true, true, true]
  | 2 => [false, false, false, false, false, false, false, false, true]
  | 3 => [false, true, true]
  | 4 => [false, false, true]
  | 5 => [false, false, false, true, true, true, true, true, true, true, true]
  | 6 => [false, true, true, true]
  | 7 => [false, true, true, true, true]
  | 8 => [false, false, true]
  | 9 => [false, false, false, false, false, false, false, false, true]
  | 10 => [false, false, false, false, true, false, true, true, true, true, true, true, true, false, false, false, false, true, false, false, false, false, false, false, true]
  | _ => []
def pm_rv (E : pmE) (o : Option Nat) : Option Nat := o.map (fun q => E.2.1 + q)
def pm_fv (E : pmE) (c : Nat) (I : pmI) (P : pmP) (a j : Nat) : Value := if (pm_ts c).getD j true = true then .int (I a j) else va_rf (pm_rv E (P a j))
def pm_fs (E : pmE) (c : Nat) (I : pmI) (P : pmP) (a : Nat) : List Value := (List.range (pm_ts c).length).map (pm_fv E c I P a)
def pm_cell (E : pmE) (S : pmS) (I : pmI) (P : pmP) (k : Nat) : va_E :=
  if S.2.1 k < 11 then .inr (S.2.1 k, pm_fs E (S.2.1 k) I P k)
  else if S.2.1 k < 13 then .inl (E.2.2.2.1 (S.2.1 k), S.2.2 k, .inl (I k))
  else .inl (E.2.2.2.1 (S.2.1 k), S.2.2 k, .inr (.inr (.inr (.inr (fun j => pm_rv E (P k j))))))
def pm_w (E : pmE) (S : pmS) (I : pmI) (P : pmP) : va_W := (List.range S.1).map (fun k => (E.2.1 + k, pm_cell E S I P k))
def pm_A (E : pmE) : Nat → Prop := fun q => E.2.1 ≤ q
theorem pm_w_get {E : pmE} {S : pmS} {I : pmI} {P : pmP} {k : Nat} (h : k < S.1) : (pm_w E S I P)[k]? = some (E.2.1 + k, pm_cell E S I P k) := by
  simp [pm_w, h]
theorem pm_w_D {E : pmE} {S : pmS} {I : pmI} {P : pmP} : va_D (pm_A E) (pm_w E S I P) := by
  have key : ∀ (i : Nat) (q : Nat × va_E), (pm_w E S I P)[i]? = some q → q.1 = E.2.1 + i := by
    intro i q h
    by_cases hi : i < S.1
    · rw [pm_w_get hi] at h
      cases h
      rfl
    · rw [List.getElem?_eq_none (by simp [pm_w]; omega)] at h
      cases h
  refine ⟨fun i j p q hp hq e => ?_, fun k q h => ?_⟩
  · have h1 := key i p hp
    have h2 := key j q hq
    omega
  · have h1 := key k q h
    show E.2.1 ≤ q.1
    omega
theorem pm_w_set {E : pmE} {S : pmS} {I I' : pmI} {P P' : pmP} {k : Nat} {e : va_E} (he : pm_cell E S I' P' k = e) (ho : ∀ j, j ≠ k → pm_cell E S I' P' j = pm_cell E S I P j) : (pm_w E S I P).set k (E.2.1 + k, e) = pm_w E S I' P' := by
  apply List.ext_getElem?
  intro i
  by_cases hi : i < S.1
  · rw [pm_w_get hi, List.getElem?_set]
    by_cases hk : k = i
    · subst hk
      simp [pm_w, hi, he]
    · rw [if_neg hk, pm_w_get hi, ho i (fun q => hk q.symm)]
  · rw [List.getElem?_eq_none (by simp [pm_w]; omega), List.getElem?_eq_none (by simp [pm_w]; omega)]
theorem pm_cell_o {E : pmE} {S : pmS} {I : pmI} {P : pmP} {k c : Nat} (h : S.2.1 k = c) (hc : c < 11) : pm_cell E S I P k = .inr (c, pm_fs E c I P k) := by
  subst h
  simp [pm_cell, hc]
theorem pm_cell_i {E : pmE} {S : pmS} {I : pmI} {P : pmP} {k c n : Nat} (h : S.2.1 k = c) (hc : ¬ c < 11) (hc' : c < 13) (hn : S.2.2 k = n) : pm_cell E S I P k = .inl (E.2.2.2.1 c, n, .inl (I k)) := by
  subst h hn
  simp [pm_cell, hc, hc']
theorem pm_cell_q {E : pmE} {S : pmS} {I : pmI} {P : pmP} {k c n : Nat} (h : S.2.1 k = c) (hc : ¬ c < 13) (hn : S.2.2 k = n) : pm_cell E S I P k = .inl (E.2.2.2.1 c, n, .inr (.inr (.inr (.inr (fun j => pm_rv E (P k j)))))) := by
  subst h hn
  have h1 : ¬ S.2.1 k < 11 := by omega
  simp [pm_cell, h1, hc]
theorem pm_cell_I {E : pmE} {S : pmS} {I : pmI} {P : pmP} {k j : Nat} {f : Nat → Int32} (h : j ≠ k) : pm_cell E S (va_up I k f) P j = pm_cell E S I P j := by
  have e : pm_fv E (S.2.1 j) (va_up I k f) P j = pm_fv E (S.2.1 j) I P j := by funext i; simp [pm_fv, va_up_ne I f h]
  simp [pm_cell, pm_fs, e, va_up_ne I f h]
theorem pm_cell_P {E : pmE} {S : pmS} {I : pmI} {P : pmP} {k j : Nat} {f : Nat → Option Nat} (h : j ≠ k) : pm_cell E S I (va_up P k f) j = pm_cell E S I P j := by
  have e : pm_fv E (S.2.1 j) I (va_up P k f) j = pm_fv E (S.2.1 j) I P j := by funext i; simp [pm_fv, va_up_ne P f h]
  simp [pm_cell, pm_fs, e, va_up_ne P f h]
theorem pm_fs_get {E : pmE} {c : Nat} {I : pmI} {P : pmP} {a k : Nat} (h : k < (pm_ts c).length) : (pm_fs E c I P a)[k]? = some (pm_fv E c I P a k) := by
  simp [pm_fs, h]
theorem pm_fs_setI {E : pmE} {c : Nat} {I : pmI} {P : pmP} {a k : Nat} {v : Int32} (ht : (pm_ts c).getD k true = true) : (pm_fs E c I P a).set k (.int v) = pm_fs E c (va_up I a (va_up (I a) k v)) P a := by
  apply List.ext_getElem?
  intro i
  by_cases hi : i < (pm_ts c).length
  · rw [pm_fs_get hi, List.getElem?_set]
    by_cases hk : k = i
    · subst hk
      simp only [pm_fs, List.length_map, List.length_range, hi, if_true, pm_fv, ht, va_up_self]
    · rw [if_neg hk, pm_fs_get hi]
      simp only [pm_fv, va_up_self]
      rw [va_up_ne (I a) v (fun q => hk q.symm)]
  · rw [List.getElem?_eq_none (by simp [pm_fs]; omega), List.getElem?_eq_none (by simp [pm_fs]; omega)]
theorem pm_fs_setP {E : pmE} {c : Nat} {I : pmI} {P : pmP} {a k : Nat} {q : Option Nat} (ht : (pm_ts c).getD k true = false) : (pm_fs E c I P a).set k (va_rf (pm_rv E q)) = pm_fs E c I (va_up P a (va_up (P a) k q)) a := by
  apply List.ext_getElem?
  intro i
  by_cases hi : i < (pm_ts c).length
  · rw [pm_fs_get hi, List.getElem?_set]
    by_cases hk : k = i
    · subst hk
      simp only [pm_fs, List.length_map, List.length_range, hi, if_true, pm_fv, ht, va_up_self, Bool.false_eq_true, if_false]
    · rw [if_neg hk, pm_fs_get hi]
      simp only [pm_fv, va_up_self]
      rw [va_up_ne (P a) q (fun q => hk q.symm)]
  · rw [List.getElem?_eq_none (by simp [pm_fs]; omega), List.getElem?_eq_none (by simp [pm_fs]; omega)]
def pm_tys (E : pmE) : List (ClassId × FieldType) := [(E.2.2.2.1 11, .int), (E.2.2.2.1 12, .boolean), (E.2.2.2.1 13, .object RX1), (E.2.2.2.1 14, .object RX4), (E.2.2.2.1 15, .object RX6), (E.2.2.2.1 16, .object RX7)]
def pm_K (E : pmE) (U : State) : Prop := va_K E.2.2.1 vwCl (pm_tys E) U
def pm_t0 (j : Nat) : Int32 := match j with | 0 => -1 | 1 => 0 | 2 => 1 | 3 => 1 | 4 => 0 | _ => 4
def pm_t1 (j : Nat) : Int32 := match j with | 0 => 10 | 1 => 11 | 2 => 12 | 3 => 11 | 4 => 13 | _ => 14
def pm_t2 (j : Nat) : Int32 := match j with | 0 => 20 | 1 => 21 | 2 => 24 | 3 => 22 | 4 => 23 | _ => 23
def pm_st (i j : Nat) : Int32 := match i with | 0 => pm_t0 j | 1 => pm_t1 j | _ => pm_t2 j
def pm_sc (i : Nat) : String × String := match i with | 0 => ("TabTrails", "WIDER_KIND") | 1 => ("TabTrails$Asking", "SIZE_BODIES") | _ => ("TabTrails$Asking", "MARK_BODIES")
/-- the static tables -/
def pm_Z (E : pmE) (U : State) (H : Heap) : Prop := ∀ i : Nat, i < 3 → va_Z (pm_sc i).1 (pm_sc i).2 "[I" (.ref (E.2.2.2.2 i)) (pm_A E) U H ∧ va_T .int (E.2.2.2.2 i) 6 (fun j => .int (pm_st i j)) (pm_A E) U H
theorem pm_Z.moved {E : pmE} {u U : State} {H : Heap} (hvm : u.vm.Alike U.vm) (h : pm_Z E u H) : pm_Z E U H := fun i hi => ⟨va_Z.moved hvm (h i hi).1, va_T.moved hvm (h i hi).2⟩
theorem pm_Z.kept {E : pmE} {U : State} {H H1 : Heap} (h : pm_Z E U H) (hq : ∀ a : Nat, a < H.size → ¬ pm_A E a → H1[a]? = H[a]?) : pm_Z E U H1 := fun i hi => ⟨va_Z.kept (h i hi).1 hq, va_T.kept (h i hi).2 hq⟩
/-- the words that speak of nest mates, and of arrays over our classes -/
def pm_nm : List (String × Nat × MethodName × String) := [(RX9, 17, yX5_init, "TabTrails"), (RX5, 17, yX8_init, "TabTrails"), (RX1, 34, yX7_init, "TabTrails"), (RX9, 24, yX8_init, "TabTrails"), (RX2, 34, yX7_init, "TabTrails"), (RX2, 41, yX8_init, "TabTrails"), (RX9, 58, yX0_init, "TabTrails"), (RX9, 67, yX6_init, "TabTrails"), (RX9, 68, yX4_init, "TabTrails"), (RX4, 9, yX8_init, "TabTrails")]
def pm_N (U : State) : Prop := va_Nw (.fieldLinkNest RX7 37 "TabTrails" "WIDER_KIND" "[I" "TabTrails") U ∧ (∀ q ∈ pm_nm, va_Nw (.methodLinkNest q.1 q.2.1 q.2.2.1 q.2.2.2) U) ∧ (va_AO RX1 U ∧ va_AO RX4 U ∧ va_AO RX6 U ∧ va_AO RX7 U)
theorem pm_N.warm {s U : State} (hW : s.WarmedH U.vm) (h : pm_N s) : pm_N U := ⟨va_Nw.warmF hW h.1, fun q hq => va_Nw.warmM hW (h.2.1 q hq), h.2.2.1.moved hW.alike, h.2.2.2.1.moved hW.alike, h.2.2.2.2.1.moved hW.alike, h.2.2.2.2.2.moved hW.alike⟩
theorem pm_N.same {u U : State} (h : u.vm = U.vm) (hZ : pm_N u) : pm_N U := ⟨va_Nw.same rfl h hZ.1, fun q hq => va_Nw.same rfl h (hZ.2.1 q hq), hZ.2.2.1.moved (h ▸ Vm.Alike.refl _), hZ.2.2.2.1.moved (h ▸ Vm.Alike.refl _), hZ.2.2.2.2.1.moved (h ▸ Vm.Alike.refl _), hZ.2.2.2.2.2.moved (h ▸ Vm.Alike.refl _)⟩
def pm_H (E : pmE) (S : pmS) (I : pmI) (P : pmP) (H : Heap) : Prop := va_P E.2.2.1 vwCl (pm_w E S I P) H
/-- a method's end -/
def pm_Q (E : pmE) (n : Nat) (R : Option Value → pmS → pmI → pmP → Prop) : Array Value → State → Outcome → State → Prop := fun _ st oc t => (∃ (v : Option Value) (S : pmS) (I : pmI) (P : pmP), oc = .returned v ∧ R v S I P ∧ pm_H E S I P t.heap ∧ S.1 = n) ∧ va_F (pm_A E) st t
def pm_Pc (E : pmE) (as : List Value) (S : pmS) (I : pmI) (P : pmP) : Array Value → State → Prop := va_Pc as (fun U => U.heap.size = E.2.1 + S.1 ∧ pm_H E S I P U.heap ∧ pm_K E U ∧ pm_Z E U U.heap ∧ pm_N U)
def pm_room (d mc ms : Nat) : Room := { frames := d, cells := mc, slots := ms, locals := 40 * d }
/-- WHAT A CALL DOES: method y on as, from the cells S I P, with room for d frames and mc cells of ms slots, ends in R -/
def pmX (E : pmE) (d mc ms : Nat) (y : MethodName) (as : List Value) (S : pmS) (I : pmI) (P : pmP) (R : Option Value → pmS → pmI → pmP → Prop) : Prop :=
  ∃ (b : ByteArray) (maxL : Nat) (ret : Option FieldType), Cond.code y b maxL ret ∈ pm_tb ∧ maxL ≤ 21 ∧ (y.name = "<init>" → ret = none) ∧ Met E.1 y (Cond.code y b maxL ret :: pm_tb) (pm_room d mc ms) (pm_Pc E as S I P) (pm_Q E (S.1 + mc) R) mc ms (pm_A E)
/-- program, environment, room, start, method, its arguments, what lies below, method and code, goal -/
abbrev pmC : Type := Program × Env × Room × State × MethodId × Array Value × List Frame × Method × Code × (State → Prop)
abbrev pmC.p (C : pmC) : Program := C.1
abbrev pmC.e (C : pmC) : Env := C.2.1
abbrev pmC.R (C : pmC) : Room := C.2.2.1
abbrev pmC.s (C : pmC) : State := C.2.2.2.1
abbrev pmC.m (C : pmC) : MethodId := C.2.2.2.2.1
abbrev pmC.a (C : pmC) : Array Value := C.2.2.2.2.2.1
abbrev pmC.b (C : pmC) : List Frame := C.2.2.2.2.2.2.1
abbrev pmC.t (C : pmC) : Method := C.2.2.2.2.2.2.2.1
abbrev pmC.c (C : pmC) : Code := C.2.2.2.2.2.2.2.2.1
abbrev pmC.Q (C : pmC) : State → Prop := C.2.2.2.2.2.2.2.2.2
def pm_L (ls : Array Slot) (lv : List (Option Value)) : Prop := ls.size = lv.length ∧ lv_wf ls ∧ ∀ (i : Nat) (v : Value), lv[i]? = some (some v) → ls[i]? = some (.val v)
/-- THE MACHINE at pc, with locals lv, operand stack st, cells S I P comes to the goal -/
def pmZ (E : pmE) (C : pmC) (pc : Nat) (lv : List (Option Value)) (st : List Value) (S : pmS) (I : pmI) (P : pmP) (ca sl : Nat) : Prop :=
  ∀ (H : Heap) (locs : List Loc) (ls : Array Slot), pm_H E S I P H → va_S (pm_A E) C.s.heap H locs → pm_L ls lv → C.s.heap.size + ca = E.2.1 + S.1 → W C.p E.1 C.e C.R C.s C.m C.a C.b C.t C.c H locs ca sl C.Q (F0 C.m pc ls st)
/-- the ground that a walk stands on -/
def pm_G (E : pmE) (C : pmC) (own : String) (cc : ByteArray) (nL d mc ms : Nat) : Prop :=
  C.p.tables.exec = Jvm.exec ∧ C.c.code = cc ∧ C.c.maxLocals = nL ∧ C.s.vm.findClass own = some C.m.cls ∧ (∀ w ∈ pm_tb, w.before C.a C.s = true) ∧ pm_K E C.s ∧ pm_Z E C.s C.s.heap ∧ (d ≤ C.R.frames ∧ 40 * d ≤ C.R.locals ∧ C.R.cells = mc ∧ C.R.slots = ms) ∧ E.2.1 ≤ C.s.heap.size ∧ C.t.locks = false ∧ pm_N C.s
def pm_R (E : pmE) (C : pmC) (ret : Option FieldType) (n mc ms : Nat) (R : Option Value → pmS → pmI → pmP → Prop) : Prop :=
  C.t.sig.returnType = ret ∧ C.Q = MQ C.b (pm_Q E n R) C.a C.s mc ms (pm_A E) ∧ C.s.heap.size + mc = E.2.1 + n
theorem pm_L.get {ls : Array Slot} {lv : List (Option Value)} (h : pm_L ls lv) {i : Nat} {v : Value} (hv : lv[i]? = some (some v)) : ls[i]? = some (.val v) := h.2.2 i v hv
def pm_prs (lv : List (Option Value)) : List (Nat × Value) := (List.range lv.length).filterMap (fun i => (lv[i]?.join).map (fun v => (i, v)))
theorem pm_prs_mem {lv : List (Option Value)} {i : Nat} {v : Value} : (i, v) ∈ pm_prs lv ↔ lv[i]? = some (some v) := by
  constructor
  · intro h
    obtain ⟨j, hj, e⟩ := List.mem_filterMap.mp h
    cases hv : lv[j]? with
    | none => rw [hv] at e; cases e
    | some o =>
      cases o with
      | none => rw [hv] at e; cases e
      | some w =>
        rw [hv] at e
        cases e
        exact hv
  · intro h
    refine List.mem_filterMap.mpr ⟨i, List.mem_range.mpr (List.getElem?_eq_some_iff.mp h).1, ?_⟩
    rw [h]
    rfl
theorem pm_L.has {ls : Array Slot} {lv : List (Option Value)} (h : pm_L ls lv) : lv_has ls lv.length (pm_prs lv) := ⟨h.1, h.2.1, fun q hq => h.2.2 q.1 q.2 (pm_prs_mem.mp hq)⟩
/-- no long stands just ahead -/
def pm_ok (lv : List (Option Value)) (i : Nat) : Bool := match i with
  | 0 => true
  | j + 1 => match lv[j]? with
    | some (some v) => !(v.category == 2)
    | _ => true
theorem pm_L.set {ls : Array Slot} {lv : List (Option Value)} {i : Nat} {v : Value} (hi : i < lv.length) (hok : pm_ok lv i = true) (h : lv_has ls lv.length ((i, v) :: (pm_prs lv).filter (fun q => !(q.1 == i) && !(q.1 + 1 == i && q.2.category == 2)))) : pm_L ls (lv.set i (some v)) := by
  refine ⟨by rw [List.length_set]; exact h.1, h.2.1, fun j w hw => ?_⟩
  rw [List.getElem?_set] at hw
  by_cases hj : i = j
  · subst hj
    rw [if_pos rfl, if_pos hi] at hw
    cases hw
    exact h.2.2 (i, v) List.mem_cons_self
  · rw [if_neg hj] at hw
    refine h.2.2 (j, w) (List.mem_cons_of_mem _ (List.mem_filter.mpr ⟨pm_prs_mem.mpr hw, ?_⟩))
    have h1 : (j == i) = false := by simpa using fun q => hj q.symm
    simp only [h1, Bool.not_false, Bool.true_and]
    by_cases h2 : j + 1 = i
    · subst h2
      simp only [pm_ok, hw] at hok
      simpa using hok
    · simp [h2]
theorem pm_L.set2 {ls : Array Slot} {lv : List (Option Value)} {i : Nat} {v : Value} (hi : i + 1 < lv.length) (hok : pm_ok lv i = true) (h : lv_has ls lv.length ((i, v) :: (pm_prs lv).filter (fun q => !(q.1 == i) && (!(q.1 == i + 1) && !(q.1 + 1 == i && q.2.category == 2))))) : pm_L ls ((lv.set i (some v)).set (i + 1) none) := by
  refine ⟨by rw [List.length_set, List.length_set]; exact h.1, h.2.1, fun j w hw => ?_⟩
  rw [List.getElem?_set] at hw
  by_cases hj1 : i + 1 = j
  · subst hj1
    rw [if_pos rfl] at hw
    split at hw <;> cases hw
  · rw [if_neg hj1, List.getElem?_set] at hw
    by_cases hj : i = j
    · subst hj
      rw [if_pos rfl, if_pos (by omega)] at hw
      cases hw
      exact h.2.2 (i, v) List.mem_cons_self
    · rw [if_neg hj] at hw
      refine h.2.2 (j, w) (List.mem_cons_of_mem _ (List.mem_filter.mpr ⟨pm_prs_mem.mpr hw, ?_⟩))
      have h1 : (j == i) = false := by simpa using fun q => hj q.symm
      have h3 : (j == i + 1) = false := by simpa using fun q => hj1 q.symm
      simp only [h1, h3, Bool.not_false, Bool.true_and]
      by_cases h2 : j + 1 = i
      · subst h2
        simp only [pm_ok, hw] at hok
        simpa using hok
      · simp [h2]
