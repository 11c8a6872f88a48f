/-! THE CLAIM OUT OF ONE WALK OF THE LAW'S BODY. Your part is whole_start (and what it stands on); all else here is the same for every law, but numbers. -/
def R_law : String := "TabTrailsLaw"
def lw_P (b : Addr) (xs : List Int32) (args : Array Value) (s : State) : Prop := args = #[.ref b] ∧ s.IntsAt b xs ∧ xs.length ≤ 3072 ∧ (Jvm.Cond.and given_1 narrow_1).before args s = true
def lw_Q (_ : Array Value) (s : State) (o : Outcome) (t : State) : Prop := o = .returned (some (.int 1)) ∧ Framed s o t [] 600000 7302250
def lw_Z (below : List Frame) (a : Array Value) (s : State) : State → Prop := fun t => ∃ o, t.status = .running ∧ Ended t below o ∧ lw_Q a s o t
/-- the law's own end, with 1 on the stack, nothing written that was there before, its room as the claim has it -/
theorem lw_ret {p : Program} {l : Launch} {e : Env} {s : State} {m : MethodId} {below : List Frame} {meth : Method} {c : Code} {b : Nat} (hx : p.tables.exec = Jvm.exec) (hb : c.code = code) (hr : meth.sig.returnType = ret) (hlocks : meth.locks = false) {pc : Nat} {H : Heap} {ls : Array Slot} (hdg : decode code pc = .ok (.ireturn, 1)) : W p l e room_1 s m #[Value.ref b] below meth c H [] 600000 7302250 (lw_Z below #[Value.ref b] s) (F0 m pc ls [.int 1]) := by
  intro T hT X
  obtain ⟨fs, hret, hrun, hended, hW, hframe⟩ := X.leave (v := some (.int 1)) (hlocks := hlocks) (fun h => by rw [hr] at h; cases h)
  have hmeth' : T.vm.method? m = some meth := X.method'
  refine ⟨T.setFrames fs, ?_, .returned (some (.int 1)), hrun, hended, rfl, ⟨_, rfl⟩, hW, hframe⟩
  jvm_step X.here [X.here.top, hx, hb, hdg, hmeth', hr, ret, narrow_b1]
  (try refine ⟨rfl, ?_⟩); (try refine ⟨rfl, ?_⟩)
  first | (intro acts; rw [hret _ acts rfl rfl rfl]) | rw [hret _ _ rfl rfl rfl]
  exact Steps.refl _
/-- what holds at the law's entry: the machine, the code, the tables' words (any of lw_tbl by 'hts w (by decide +kernel)'), the script of L ints xs at the cell b, what the Statement gives of the start (any of its parts by flat_of_before) -/
def lw_At (p : Program) (s : State) (m : MethodId) (meth : Method) (c : Code) (b L : Nat) (xs : Nat → Int32) : Prop :=
  p.tables.exec = Jvm.exec ∧ c.code = code ∧ meth.sig.returnType = ret ∧ c.maxLocals = 4 ∧ s.vm.findClass R_law = some m.cls ∧ (∀ w ∈ lw_tbl, w.before #[Value.ref b] s = true) ∧ va_X b L xs s s.heap ∧ b < s.heap.size ∧ meth.locks = false ∧ (Jvm.Cond.and given_1 narrow_1).before #[Value.ref b] s = true

theorem it_0 : Cond.instantiable RX0 3 ∈ pm_tb := (pm_tb_t 227 (by decide +kernel) rfl)
theorem it_1 : Cond.instantiable RX1 6 ∈ pm_tb := (pm_tb_t 51 (by decide +kernel) rfl)
theorem it_2 : Cond.instantiable RX2 9 ∈ pm_tb := (pm_tb_t 184 (by decide +kernel) rfl)
theorem it_3 : Cond.instantiable RX3 3 ∈ pm_tb := (pm_tb_t 162 (by decide +kernel) rfl)
theorem it_4 : Cond.instantiable RX4 3 ∈ pm_tb := (pm_tb_t 267 (by decide +kernel) rfl)
theorem it_5 : Cond.instantiable RX5 11 ∈ pm_tb := (pm_tb_t 25 (by decide +kernel) rfl)
theorem it_6 : Cond.instantiable RX6 4 ∈ pm_tb := (pm_tb_t 244 (by decide +kernel) rfl)
theorem it_7 : Cond.instantiable RX7 5 ∈ pm_tb := (pm_tb_t 58 (by decide +kernel) rfl)
theorem it_8 : Cond.instantiable RX8 3 ∈ pm_tb := (pm_tb_t 31 (by decide +kernel) rfl)
theorem it_9 : Cond.instantiable RX9 9 ∈ pm_tb := (pm_tb_t 15 (by decide +kernel) rfl)
theorem it_10 : Cond.instantiable RX10 25 ∈ pm_tb := (pm_tb_t 876 (by decide +kernel) rfl)
theorem aw_1 : Cond.arrayOver (.object RX1) ∈ lw_tbl := (List.mem_append_right _ (List.mem_of_getElem? (i := 168) (by decide +kernel)))
theorem aw_4 : Cond.arrayOver (.object RX4) ∈ lw_tbl := (List.mem_append_right _ (List.mem_of_getElem? (i := 182) (by decide +kernel)))
theorem aw_6 : Cond.arrayOver (.object RX6) ∈ lw_tbl := (List.mem_append_right _ (List.mem_of_getElem? (i := 23) (by decide +kernel)))
theorem aw_7 : Cond.arrayOver (.object RX7) ∈ lw_tbl := (List.mem_append_right _ (List.mem_of_getElem? (i := 57) (by decide +kernel)))
theorem nw_0 : Cond.methodLinkNest RX9 17 yX5_init "TabTrails" ∈ lw_tbl := (List.mem_append_right _ (List.mem_of_getElem? (i := 26) (by decide +kernel)))
theorem nw_1 : Cond.methodLinkNest RX5 17 yX8_init "TabTrails" ∈ lw_tbl := (List.mem_append_right _ (List.mem_of_getElem? (i := 32) (by decide +kernel)))
theorem nw_2 : Cond.methodLinkNest RX1 34 yX7_init "TabTrails" ∈ lw_tbl := (List.mem_append_right _ (List.mem_of_getElem? (i := 59) (by decide +kernel)))
theorem nw_3 : Cond.methodLinkNest RX9 24 yX8_init "TabTrails" ∈ lw_tbl := (List.mem_append_right _ (List.mem_of_getElem? (i := 158) (by decide +kernel)))
theorem nw_4 : Cond.methodLinkNest RX2 34 yX7_init "TabTrails" ∈ lw_tbl := (List.mem_append_right _ (List.mem_of_getElem? (i := 192) (by decide +kernel)))
theorem nw_5 : Cond.methodLinkNest RX2 41 yX8_init "TabTrails" ∈ lw_tbl := (List.mem_append_right _ (List.mem_of_getElem? (i := 194) (by decide +kernel)))
theorem nw_6 : Cond.methodLinkNest RX9 58 yX0_init "TabTrails" ∈ lw_tbl := (List.mem_append_right _ (List.mem_of_getElem? (i := 228) (by decide +kernel)))
theorem nw_7 : Cond.methodLinkNest RX9 67 yX6_init "TabTrails" ∈ lw_tbl := (List.mem_append_right _ (List.mem_of_getElem? (i := 245) (by decide +kernel)))
theorem nw_8 : Cond.methodLinkNest RX9 68 yX4_init "TabTrails" ∈ lw_tbl := (List.mem_append_right _ (List.mem_of_getElem? (i := 268) (by decide +kernel)))
theorem nw_9 : Cond.methodLinkNest RX4 9 yX8_init "TabTrails" ∈ lw_tbl := (List.mem_append_right _ (List.mem_of_getElem? (i := 273) (by decide +kernel)))
theorem nw_f : Cond.fieldLinkNest RX7 37 "TabTrails" "WIDER_KIND" "[I" "TabTrails" ∈ lw_tbl := (List.mem_append_right _ (List.mem_of_getElem? (i := 605) (by decide +kernel)))
theorem ls_0 : Cond.laysStatic "TabTrails" "WIDER_KIND" "[I" ∈ lw_tbl := (List.mem_append_right _ (List.mem_of_getElem? (i := 606) (by decide +kernel)))
theorem ls_1 : Cond.laysStatic "TabTrails$Asking" "SIZE_BODIES" "[I" ∈ lw_tbl := (List.mem_append_right _ (List.mem_of_getElem? (i := 843) (by decide +kernel)))
theorem ls_2 : Cond.laysStatic "TabTrails$Asking" "MARK_BODIES" "[I" ∈ lw_tbl := (List.mem_append_right _ (List.mem_of_getElem? (i := 848) (by decide +kernel)))
theorem st_nest {s : State} {b : Nat} (hts : ∀ w ∈ lw_tbl, w.before #[Value.ref b] s = true) : pm_N s :=
  ⟨va_tabs rfl rfl (hts _ nw_f), List.forall_mem_cons.mpr ⟨va_tabs rfl rfl (hts _ nw_0), List.forall_mem_cons.mpr ⟨va_tabs rfl rfl (hts _ nw_1), List.forall_mem_cons.mpr ⟨va_tabs rfl rfl (hts _ nw_2), List.forall_mem_cons.mpr ⟨va_tabs rfl rfl (hts _ nw_3), List.forall_mem_cons.mpr ⟨va_tabs rfl rfl (hts _ nw_4), List.forall_mem_cons.mpr ⟨va_tabs rfl rfl (hts _ nw_5), List.forall_mem_cons.mpr ⟨va_tabs rfl rfl (hts _ nw_6), List.forall_mem_cons.mpr ⟨va_tabs rfl rfl (hts _ nw_7), List.forall_mem_cons.mpr ⟨va_tabs rfl rfl (hts _ nw_8), List.forall_mem_cons.mpr ⟨va_tabs rfl rfl (hts _ nw_9), fun q hq => absurd hq (by simp)⟩⟩⟩⟩⟩⟩⟩⟩⟩⟩, va_AO.of (hts _ aw_1), va_AO.of (hts _ aw_4), va_AO.of (hts _ aw_6), va_AO.of (hts _ aw_7)⟩
theorem st_arr {s : State} {b : Nat} {ty : FieldType} (h : (Cond.arrayClass ty).before #[Value.ref b] s = true) (hno : ∀ k, ty ≠ .object k) : ∃ cA : ClassId, ArrOfT s cA ty ∧ va_RA s cA ty := by
  obtain ⟨cA, kA, comp, h1, h2, h3⟩ := Cond.arrayClass_spec h
  refine ⟨cA, fun N z => ⟨(fun k h => by cases h), kA, h2, comp, h3⟩, ?_⟩
  cases ty with
  | object k => exact absurd rfl (hno k)
  | _ => exact h1
theorem st_arq {s : State} {b : Nat} {C : String} (h : (Cond.arrayOver (.object C)).before #[Value.ref b] s = true) : ∃ cA : ClassId, ArrOfT s cA (.object C) ∧ va_RA s cA (.object C) := by
  obtain ⟨comp, cA, kA, h1, h2, h3, h4, h5⟩ := Cond.arrayOver_spec h
  exact ⟨cA, fun N z => ⟨(fun k h => by cases h), kA, h3, comp, h4⟩, kA, comp, h3, h4, h1, h5⟩
theorem st_K {s : State} {b : Nat} (hts : ∀ w ∈ lw_tbl, w.before #[Value.ref b] s = true) : ∃ (D : va_G) (ac : Nat → ClassId), ∀ (l : Launch) (n : Nat) (sa : Nat → Nat), pm_K (l, n, D, ac, sa) s := by
  have ht : ∀ w ∈ pm_tb, w.before #[Value.ref b] s = true := fun w hw => hts w (List.mem_filter.mp hw).1
  obtain ⟨c0, i0, k0⟩ := u_known (C := RX0) (T := TX0) (N := 3) (n := 3) ht fw_0 (ht _ it_0)
  obtain ⟨c1, i1, k1⟩ := u_known (C := RX1) (T := TX1) (N := 6) (n := 6) ht fw_1 (ht _ it_1)
  obtain ⟨c2, i2, k2⟩ := u_known (C := RX2) (T := TX2) (N := 9) (n := 9) ht fw_2 (ht _ it_2)
  obtain ⟨c3, i3, k3⟩ := u_known (C := RX3) (T := TX3) (N := 3) (n := 3) ht fw_3 (ht _ it_3)
  obtain ⟨c4, i4, k4⟩ := u_known (C := RX4) (T := TX4) (N := 3) (n := 3) ht fw_4 (ht _ it_4)
  obtain ⟨c5, i5, k5⟩ := u_known (C := RX5) (T := TX5) (N := 11) (n := 11) ht fw_5 (ht _ it_5)
  obtain ⟨c6, i6, k6⟩ := u_known (C := RX6) (T := TX6) (N := 4) (n := 4) ht fw_6 (ht _ it_6)
  obtain ⟨c7, i7, k7⟩ := u_known (C := RX7) (T := TX7) (N := 5) (n := 5) ht fw_7 (ht _ it_7)
  obtain ⟨c8, i8, k8⟩ := u_known (C := RX8) (T := TX8) (N := 3) (n := 3) ht fw_8 (ht _ it_8)
  obtain ⟨c9, i9, k9⟩ := u_known (C := RX9) (T := TX9) (N := 9) (n := 9) ht fw_9 (ht _ it_9)
  obtain ⟨c10, i10, k10⟩ := u_known (C := RX10) (T := TX10) (N := 25) (n := 25) ht fw_10 (ht _ it_10)
  obtain ⟨a11, x11⟩ := st_arr (ht _ aw_i) (fun k h => by cases h)
  obtain ⟨a12, x12⟩ := st_arr (ht _ aw_b) (fun k h => by cases h)
  obtain ⟨a13, x13⟩ := st_arq (hts _ aw_1)
  obtain ⟨a14, x14⟩ := st_arq (hts _ aw_4)
  obtain ⟨a15, x15⟩ := st_arq (hts _ aw_6)
  obtain ⟨a16, x16⟩ := st_arq (hts _ aw_7)
  refine ⟨(fun k => match k with | 0 => c0 | 1 => c1 | 2 => c2 | 3 => c3 | 4 => c4 | 5 => c5 | 6 => c6 | 7 => c7 | 8 => c8 | 9 => c9 | _ => c10, fun k => match k with | 0 => i0 | 1 => i1 | 2 => i2 | 3 => i3 | 4 => i4 | 5 => i5 | 6 => i6 | 7 => i7 | 8 => i8 | 9 => i9 | _ => i10), fun k => match k with | 11 => a11 | 12 => a12 | 13 => a13 | 14 => a14 | 15 => a15 | _ => a16, fun l n sa => ⟨fun k q hq => ?_, fun k q hq => ?_⟩⟩
  · match k, hq with
    | 0, hq => cases hq; exact k0
    | 1, hq => cases hq; exact k1
    | 2, hq => cases hq; exact k2
    | 3, hq => cases hq; exact k3
    | 4, hq => cases hq; exact k4
    | 5, hq => cases hq; exact k5
    | 6, hq => cases hq; exact k6
    | 7, hq => cases hq; exact k7
    | 8, hq => cases hq; exact k8
    | 9, hq => cases hq; exact k9
    | 10, hq => cases hq; exact k10
    | k + 11, hq => exact absurd (List.getElem?_eq_some_iff.mp hq).1 (by show ¬ k + 11 < 11; omega)
  · match k, hq with
    | 0, hq => cases hq; exact x11
    | 1, hq => cases hq; exact x12
    | 2, hq => cases hq; exact x13
    | 3, hq => cases hq; exact x14
    | 4, hq => cases hq; exact x15
    | 5, hq => cases hq; exact x16
    | k + 6, hq => exact absurd (List.getElem?_eq_some_iff.mp hq).1 (by show ¬ k + 6 < 6; omega)
theorem st_Z {s : State} {b : Nat} (hts : ∀ w ∈ lw_tbl, w.before #[Value.ref b] s = true) (hgv : (Jvm.Cond.and given_1 narrow_1).before #[Value.ref b] s = true) : ∃ sa : Nat → Nat, ∀ (l : Launch) (D : va_G) (ac : Nat → ClassId), pm_Z (l, s.heap.size, D, ac, sa) s s.heap := by
  have ht : ∀ w ∈ pm_tb, w.before #[Value.ref b] s = true := fun w hw => hts w (List.mem_filter.mp hw).1
  have hs := flat_of_before _ hgv
  have hA : ∀ a : Nat, a < s.heap.size → ¬ (fun q : Nat => s.heap.size ≤ q) a := fun a ha => Nat.not_le.mpr ha
  obtain ⟨t0, h0, T0⟩ := va_Tof (args := #[Value.ref b]) (s := s) (tm := .static "TabTrails" "WIDER_KIND" "[I") (ty := .int) (N := 6) (f := fun j => .int (pm_t0 j)) (A := fun q : Nat => s.heap.size ≤ q) (by decide) (hs _ (by decide +kernel)) (va_eqt (hs _ (by decide +kernel))) (fun j hj => match j, hj with | 0, _ => va_eqt (hs _ (by decide +kernel)) | 1, _ => va_eqt (hs _ (by decide +kernel)) | 2, _ => va_eqt (hs _ (by decide +kernel)) | 3, _ => va_eqt (hs _ (by decide +kernel)) | 4, _ => va_eqt (hs _ (by decide +kernel)) | 5, _ => va_eqt (hs _ (by decide +kernel)) | j + 6, h => absurd h (by omega)) hA
  have Z0 := va_Zref (hts _ ls_0) (ht _ ini_9) h0 hA
  obtain ⟨t1, h1, T1⟩ := va_Tof (args := #[Value.ref b]) (s := s) (tm := .static "TabTrails$Asking" "SIZE_BODIES" "[I") (ty := .int) (N := 6) (f := fun j => .int (pm_t1 j)) (A := fun q : Nat => s.heap.size ≤ q) (by decide) (hs _ (by decide +kernel)) (va_eqt (hs _ (by decide +kernel))) (fun j hj => match j, hj with | 0, _ => va_eqt (hs _ (by decide +kernel)) | 1, _ => va_eqt (hs _ (by decide +kernel)) | 2, _ => va_eqt (hs _ (by decide +kernel)) | 3, _ => va_eqt (hs _ (by decide +kernel)) | 4, _ => va_eqt (hs _ (by decide +kernel)) | 5, _ => va_eqt (hs _ (by decide +kernel)) | j + 6, h => absurd h (by omega)) hA
  have Z1 := va_Zref (hts _ ls_1) (ht _ ini_0) h1 hA
  obtain ⟨t2, h2, T2⟩ := va_Tof (args := #[Value.ref b]) (s := s) (tm := .static "TabTrails$Asking" "MARK_BODIES" "[I") (ty := .int) (N := 6) (f := fun j => .int (pm_t2 j)) (A := fun q : Nat => s.heap.size ≤ q) (by decide) (hs _ (by decide +kernel)) (va_eqt (hs _ (by decide +kernel))) (fun j hj => match j, hj with | 0, _ => va_eqt (hs _ (by decide +kernel)) | 1, _ => va_eqt (hs _ (by decide +kernel)) | 2, _ => va_eqt (hs _ (by decide +kernel)) | 3, _ => va_eqt (hs _ (by decide +kernel)) | 4, _ => va_eqt (hs _ (by decide +kernel)) | 5, _ => va_eqt (hs _ (by decide +kernel)) | j + 6, h => absurd h (by omega)) hA
  have Z2 := va_Zref (hts _ ls_2) (ht _ ini_0) h2 hA
  refine ⟨fun i => match i with | 0 => t0 | 1 => t1 | _ => t2, fun l D ac i hi => ?_⟩
  match i, hi with
  | 0, _ => exact ⟨Z0, T0⟩
  | 1, _ => exact ⟨Z1, T1⟩
  | 2, _ => exact ⟨Z2, T2⟩
  | i + 3, h => omega
set_option maxHeartbeats 1000000 in
theorem whole_start {p : Program} {e : Env} {s : State} {m : MethodId} {below : List Frame} {meth : Method} {c : Code} (l : Launch) (hflags : l.flags = flags0) {b L : Nat} {xs : Nat → Int32} (hL : L ≤ 3072) (C0 : lw_At p s m meth c b L xs) : W p l e room_1 s m #[Value.ref b] below meth c s.heap [] 0 0 (lw_Z below #[Value.ref b] s) (entryFrame m ([Value.ref b] : List Value).toArray 4) := by
  obtain ⟨hx, hb, hr, hml, hown, hts, hX, hbl, hlocks, hgv⟩ := id C0
  have ht : ∀ w ∈ pm_tb, w.before #[Value.ref b] s = true := fun w hw => hts w (List.mem_filter.mp hw).1
  obtain ⟨D, ac, hK⟩ := st_K hts
  obtain ⟨sa, hZ⟩ := st_Z hts hgv
  have hN := st_nest hts
  have G : pm_G (l, s.heap.size, D, ac, sa) (p, e, room_1, s, m, #[Value.ref b], below, meth, c, lw_Z below #[Value.ref b] s) RL code 4 2001 600000 7302250 := ⟨hx, hb, hml, hown, ht, hK l s.heap.size sa, hZ l D ac, ⟨Nat.le_of_ble_eq_true rfl, Nat.le_of_ble_eq_true rfl, rfl, rfl⟩, Nat.le_refl _, hlocks, hN⟩
  have fin : ∀ (u : Int32) (S : pmS) (I : pmI) (P : pmP), pmZ (l, s.heap.size, D, ac, sa) (p, e, room_1, s, m, #[Value.ref b], below, meth, c, lw_Z below #[Value.ref b] s) 1179 [some (.ref b), some (rr (l, s.heap.size, D, ac, sa) 0), some (rr (l, s.heap.size, D, ac, sa) 660), some (.int u)] [] S I P 676 8217 := by
    intro u S I P
    refine z_iconst G (v := 1) dL_law_1179 (by decide) ?_
    intro H locs ls hH hS hl hn
    refine va_forget (fun q hq => hS.2.2 q hq) ?_
    refine W.widen (k := 600000) (n := 7302250) (by omega) (by omega) ?_
    exact lw_ret hx hb hr hlocks dL_law_1180
  have hLc : pm_L ((lg_sl ([Value.ref b] : List Value) ++ List.replicate (4 - (lg_sl ([Value.ref b] : List Value)).length) Slot.unset).toArray) [some (.ref b), none, none, none] := pm_loc_L (vs := [Value.ref b]) (n := 4) (Nat.le_of_ble_eq_true rfl)
  rw [lg_entry_eq]
  exact law_entry G hX hbl rfl hL fin (S := (0, fun _ => 0, fun _ => 0)) (I := fun _ _ => 0) (P := fun _ _ => none) rfl s.heap [] _ (fun k q hq => by simp [pm_w] at hq) va_S.rf hLc rfl
