/-! a row an instruction -/
section ROWS
variable {E : pmE} {C : pmC} {own : String} {cc : ByteArray} {nL d mc0 ms0 : Nat} {pc : Nat} {lv : List (Option Value)} {st : List Value} {S : pmS} {I : pmI} {P : pmP} {ca sl : Nat}
theorem z_eq {pc' : Nat} {lv' : List (Option Value)} {st' : List Value} {I' : pmI} {P' : pmP} (h1 : pc = pc') (h2 : lv = lv') (h3 : st = st') (h4 : I = I') (h5 : P = P') (k : pmZ E C pc' lv' st' S I' P' ca sl) : pmZ E C pc lv st S I P ca sl := by
  subst h1 h2 h3 h4 h5
  exact k

theorem z_iconst (G : pm_G E C own cc nL d mc0 ms0) {n : Int} {v : Int32} (hdg : decode cc pc = .ok (.iconst n, 1)) (hv : Int32.ofInt n = v) (k : pmZ E C (pc + 1) lv (.int v :: st) S I P ca sl) : pmZ E C pc lv (st) S I P ca sl :=
  fun H locs ls hH hS hl => lv_iconst G.1 G.2.1 hdg hv (k H locs ls hH hS hl)
theorem z_bipush (G : pm_G E C own cc nL d mc0 ms0) {n : Int} {v : Int32} (hdg : decode cc pc = .ok (.bipush n, 2)) (hv : (Int8.ofInt n).toInt32 = v) (k : pmZ E C (pc + 2) lv (.int v :: st) S I P ca sl) : pmZ E C pc lv (st) S I P ca sl :=
  fun H locs ls hH hS hl => lv_bipush G.1 G.2.1 hdg hv (k H locs ls hH hS hl)
theorem z_sipush (G : pm_G E C own cc nL d mc0 ms0) {n : Int} {v : Int32} (hdg : decode cc pc = .ok (.sipush n, 3)) (hv : (Int16.ofInt n).toInt32 = v) (k : pmZ E C (pc + 3) lv (.int v :: st) S I P ca sl) : pmZ E C pc lv (st) S I P ca sl :=
  fun H locs ls hH hS hl => lv_sipush G.1 G.2.1 hdg hv (k H locs ls hH hS hl)
theorem z_iload_n (G : pm_G E C own cc nL d mc0 ms0) {j : Fin 4} {x : Int32} (hdg : decode cc pc = .ok (.iload_n j, 1)) (hv : lv[(j : Nat)]? = some (some (.int x))) (k : pmZ E C (pc + 1) lv (.int x :: st) S I P ca sl) : pmZ E C pc lv (st) S I P ca sl :=
  fun H locs ls hH hS hl => lv_iload_n G.1 G.2.1 hdg rfl (hl.get hv) (k H locs ls hH hS hl)
theorem z_iload (G : pm_G E C own cc nL d mc0 ms0) {j : Nat} {x : Int32} (hdg : decode cc pc = .ok (.iload j, 2)) (hv : lv[j]? = some (some (.int x))) (k : pmZ E C (pc + 2) lv (.int x :: st) S I P ca sl) : pmZ E C pc lv (st) S I P ca sl :=
  fun H locs ls hH hS hl => lv_iload G.1 G.2.1 hdg (hl.get hv) (k H locs ls hH hS hl)
theorem z_lload_n (G : pm_G E C own cc nL d mc0 ms0) {j : Fin 4} {x : Int64} (hdg : decode cc pc = .ok (.lload_n j, 1)) (hv : lv[(j : Nat)]? = some (some (.long x))) (k : pmZ E C (pc + 1) lv (.long x :: st) S I P ca sl) : pmZ E C pc lv (st) S I P ca sl :=
  fun H locs ls hH hS hl => lv_lload_n G.1 G.2.1 hdg rfl (hl.get hv) (k H locs ls hH hS hl)
theorem z_lload (G : pm_G E C own cc nL d mc0 ms0) {j : Nat} {x : Int64} (hdg : decode cc pc = .ok (.lload j, 2)) (hv : lv[j]? = some (some (.long x))) (k : pmZ E C (pc + 2) lv (.long x :: st) S I P ca sl) : pmZ E C pc lv (st) S I P ca sl :=
  fun H locs ls hH hS hl => lv_lload G.1 G.2.1 hdg (hl.get hv) (k H locs ls hH hS hl)
theorem z_aload_n (G : pm_G E C own cc nL d mc0 ms0) {j : Fin 4} {x : Nat} (hdg : decode cc pc = .ok (.aload_n j, 1)) (hv : lv[(j : Nat)]? = some (some (rr E x))) (k : pmZ E C (pc + 1) lv (rr E x :: st) S I P ca sl) : pmZ E C pc lv (st) S I P ca sl :=
  fun H locs ls hH hS hl => lv_aload_n G.1 G.2.1 hdg rfl (hl.get hv) (k H locs ls hH hS hl)
theorem z_aload (G : pm_G E C own cc nL d mc0 ms0) {j : Nat} {x : Nat} (hdg : decode cc pc = .ok (.aload j, 2)) (hv : lv[j]? = some (some (rr E x))) (k : pmZ E C (pc + 2) lv (rr E x :: st) S I P ca sl) : pmZ E C pc lv (st) S I P ca sl :=
  fun H locs ls hH hS hl => lv_aload G.1 G.2.1 hdg (hl.get hv) (k H locs ls hH hS hl)
theorem z_aload_x (G : pm_G E C own cc nL d mc0 ms0) {j : Fin 4} {x : Nat} (hdg : decode cc pc = .ok (.aload_n j, 1)) (hv : lv[(j : Nat)]? = some (some (.ref x))) (k : pmZ E C (pc + 1) lv (.ref x :: st) S I P ca sl) : pmZ E C pc lv (st) S I P ca sl :=
  fun H locs ls hH hS hl => lv_aload_n G.1 G.2.1 hdg rfl (hl.get hv) (k H locs ls hH hS hl)
theorem z_istore_n (G : pm_G E C own cc nL d mc0 ms0) {j : Fin 4} {x : Int32} (hdg : decode cc pc = .ok (.istore_n j, 1)) (hn : (j : Nat) < lv.length) (hok : pm_ok lv j = true) (k : pmZ E C (pc + 1) (lv.set (j : Nat) (some (.int x))) (st) S I P ca sl) : pmZ E C pc lv (.int x :: st) S I P ca sl :=
  fun H locs ls hH hS hl => lv_istore_n G.1 G.2.1 hdg rfl hl.has hn rfl (fun ls' h => k H locs ls' hH hS (pm_L.set hn hok h))
theorem z_istore (G : pm_G E C own cc nL d mc0 ms0) {j : Nat} {x : Int32} (hdg : decode cc pc = .ok (.istore j, 2)) (hn : j < lv.length) (hok : pm_ok lv j = true) (k : pmZ E C (pc + 2) (lv.set j (some (.int x))) (st) S I P ca sl) : pmZ E C pc lv (.int x :: st) S I P ca sl :=
  fun H locs ls hH hS hl => lv_istore G.1 G.2.1 hdg hl.has hn rfl (fun ls' h => k H locs ls' hH hS (pm_L.set hn hok h))
theorem z_astore_n (G : pm_G E C own cc nL d mc0 ms0) {j : Fin 4} {x : Nat} (hdg : decode cc pc = .ok (.astore_n j, 1)) (hn : (j : Nat) < lv.length) (hok : pm_ok lv j = true) (k : pmZ E C (pc + 1) (lv.set (j : Nat) (some (rr E x))) (st) S I P ca sl) : pmZ E C pc lv (rr E x :: st) S I P ca sl :=
  fun H locs ls hH hS hl => lv_astore_n G.1 G.2.1 hdg rfl hl.has hn rfl (fun ls' h => k H locs ls' hH hS (pm_L.set hn hok h))
theorem z_astore (G : pm_G E C own cc nL d mc0 ms0) {j : Nat} {x : Nat} (hdg : decode cc pc = .ok (.astore j, 2)) (hn : j < lv.length) (hok : pm_ok lv j = true) (k : pmZ E C (pc + 2) (lv.set j (some (rr E x))) (st) S I P ca sl) : pmZ E C pc lv (rr E x :: st) S I P ca sl :=
  fun H locs ls hH hS hl => lv_astore G.1 G.2.1 hdg hl.has hn rfl (fun ls' h => k H locs ls' hH hS (pm_L.set hn hok h))
theorem z_lstore_n (G : pm_G E C own cc nL d mc0 ms0) {j : Fin 4} {x : Int64} (hdg : decode cc pc = .ok (.lstore_n j, 1)) (hn : (j : Nat) + 1 < lv.length) (hok : pm_ok lv j = true) (k : pmZ E C (pc + 1) ((lv.set (j : Nat) (some (.long x))).set ((j : Nat) + 1) none) (st) S I P ca sl) : pmZ E C pc lv (.long x :: st) S I P ca sl :=
  fun H locs ls hH hS hl => lv_lstore_n G.1 G.2.1 hdg rfl hl.has hn rfl (fun ls' h => k H locs ls' hH hS (pm_L.set2 hn hok h))
theorem z_lstore (G : pm_G E C own cc nL d mc0 ms0) {j : Nat} {x : Int64} (hdg : decode cc pc = .ok (.lstore j, 2)) (hn : j + 1 < lv.length) (hok : pm_ok lv j = true) (k : pmZ E C (pc + 2) ((lv.set j (some (.long x))).set (j + 1) none) (st) S I P ca sl) : pmZ E C pc lv (.long x :: st) S I P ca sl :=
  fun H locs ls hH hS hl => lv_lstore G.1 G.2.1 hdg hl.has hn rfl (fun ls' h => k H locs ls' hH hS (pm_L.set2 hn hok h))
theorem z_iinc (G : pm_G E C own cc nL d mc0 ms0) {j : Nat} {n : Int} {x v : Int32} (hdg : decode cc pc = .ok (.iinc j n, 3)) (hx : lv[j]? = some (some (.int x))) (hv : x + Int32.ofInt n = v) (hok : pm_ok lv j = true) (k : pmZ E C (pc + 3) (lv.set j (some (.int v))) (st) S I P ca sl) : pmZ E C pc lv (st) S I P ca sl := by
  intro H locs ls hH hS hl
  obtain ⟨i, hi⟩ := List.getElem?_of_mem (pm_prs_mem.mpr hx)
  have hn : j < lv.length := (List.getElem?_eq_some_iff.mp hx).1
  exact lv_iinc G.1 G.2.1 hdg hl.has hi hv hn rfl (fun ls' h => k H locs ls' hH hS (pm_L.set hn hok h))
theorem z_iadd (G : pm_G E C own cc nL d mc0 ms0) {x y : Int32} (hdg : decode cc pc = .ok (.iadd, 1))  (k : pmZ E C (pc + 1) lv (.int (x + y) :: st) S I P ca sl) : pmZ E C pc lv (.int y :: .int x :: st) S I P ca sl :=
  fun H locs ls hH hS hl => lv_iadd G.1 G.2.1 hdg  (k H locs ls hH hS hl)
theorem z_isub (G : pm_G E C own cc nL d mc0 ms0) {x y : Int32} (hdg : decode cc pc = .ok (.isub, 1))  (k : pmZ E C (pc + 1) lv (.int (x - y) :: st) S I P ca sl) : pmZ E C pc lv (.int y :: .int x :: st) S I P ca sl :=
  fun H locs ls hH hS hl => lv_isub G.1 G.2.1 hdg  (k H locs ls hH hS hl)
theorem z_imul (G : pm_G E C own cc nL d mc0 ms0) {x y : Int32} (hdg : decode cc pc = .ok (.imul, 1))  (k : pmZ E C (pc + 1) lv (.int (x * y) :: st) S I P ca sl) : pmZ E C pc lv (.int y :: .int x :: st) S I P ca sl :=
  fun H locs ls hH hS hl => lv_imul G.1 G.2.1 hdg  (k H locs ls hH hS hl)
theorem z_ishl (G : pm_G E C own cc nL d mc0 ms0) {x y : Int32} (hdg : decode cc pc = .ok (.ishl, 1))  (k : pmZ E C (pc + 1) lv (.int (x <<< (y &&& 31)) :: st) S I P ca sl) : pmZ E C pc lv (.int y :: .int x :: st) S I P ca sl :=
  fun H locs ls hH hS hl => lv_ishl G.1 G.2.1 hdg  (k H locs ls hH hS hl)
theorem z_ishr (G : pm_G E C own cc nL d mc0 ms0) {x y : Int32} (hdg : decode cc pc = .ok (.ishr, 1))  (k : pmZ E C (pc + 1) lv (.int (x >>> (y &&& 31)) :: st) S I P ca sl) : pmZ E C pc lv (.int y :: .int x :: st) S I P ca sl :=
  fun H locs ls hH hS hl => lv_ishr G.1 G.2.1 hdg  (k H locs ls hH hS hl)
theorem z_iand (G : pm_G E C own cc nL d mc0 ms0) {x y : Int32} (hdg : decode cc pc = .ok (.iand, 1))  (k : pmZ E C (pc + 1) lv (.int (x &&& y) :: st) S I P ca sl) : pmZ E C pc lv (.int y :: .int x :: st) S I P ca sl :=
  fun H locs ls hH hS hl => lv_iand G.1 G.2.1 hdg  (k H locs ls hH hS hl)
theorem z_ior (G : pm_G E C own cc nL d mc0 ms0) {x y : Int32} (hdg : decode cc pc = .ok (.ior, 1))  (k : pmZ E C (pc + 1) lv (.int (x ||| y) :: st) S I P ca sl) : pmZ E C pc lv (.int y :: .int x :: st) S I P ca sl :=
  fun H locs ls hH hS hl => lv_ior G.1 G.2.1 hdg  (k H locs ls hH hS hl)
theorem z_idiv (G : pm_G E C own cc nL d mc0 ms0) {x y : Int32} (hdg : decode cc pc = .ok (.idiv, 1)) (hne : ¬ y = 0) (k : pmZ E C (pc + 1) lv (.int (x / y) :: st) S I P ca sl) : pmZ E C pc lv (.int y :: .int x :: st) S I P ca sl :=
  fun H locs ls hH hS hl => lv_idiv G.1 G.2.1 hdg hne (k H locs ls hH hS hl)
theorem z_irem (G : pm_G E C own cc nL d mc0 ms0) {x y : Int32} (hdg : decode cc pc = .ok (.irem, 1)) (hne : ¬ y = 0) (k : pmZ E C (pc + 1) lv (.int (x - x / y * y) :: st) S I P ca sl) : pmZ E C pc lv (.int y :: .int x :: st) S I P ca sl :=
  fun H locs ls hH hS hl => lv_irem G.1 G.2.1 hdg hne (k H locs ls hH hS hl)
theorem z_ineg (G : pm_G E C own cc nL d mc0 ms0) {x : Int32} (hdg : decode cc pc = .ok (.ineg, 1))  (k : pmZ E C (pc + 1) lv (.int (-x) :: st) S I P ca sl) : pmZ E C pc lv (.int x :: st) S I P ca sl :=
  fun H locs ls hH hS hl => lv_ineg G.1 G.2.1 hdg  (k H locs ls hH hS hl)
theorem z_lmul (G : pm_G E C own cc nL d mc0 ms0) {x y : Int64} (hdg : decode cc pc = .ok (.lmul, 1))  (k : pmZ E C (pc + 1) lv (.long (x * y) :: st) S I P ca sl) : pmZ E C pc lv (.long y :: .long x :: st) S I P ca sl :=
  fun H locs ls hH hS hl => lv_lmul G.1 G.2.1 hdg  (k H locs ls hH hS hl)
theorem z_lrem (G : pm_G E C own cc nL d mc0 ms0) {x y : Int64} (hdg : decode cc pc = .ok (.lrem, 1)) (hne : ¬ y = 0) (k : pmZ E C (pc + 1) lv (.long (x - x / y * y) :: st) S I P ca sl) : pmZ E C pc lv (.long y :: .long x :: st) S I P ca sl :=
  fun H locs ls hH hS hl => lv_lrem G.1 G.2.1 hdg hne (k H locs ls hH hS hl)
theorem z_i2l (G : pm_G E C own cc nL d mc0 ms0) {x : Int32} (hdg : decode cc pc = .ok (.i2l, 1))  (k : pmZ E C (pc + 1) lv (.long x.toInt64 :: st) S I P ca sl) : pmZ E C pc lv (.int x :: st) S I P ca sl :=
  fun H locs ls hH hS hl => lv_i2l G.1 G.2.1 hdg rfl (k H locs ls hH hS hl)
theorem z_l2i (G : pm_G E C own cc nL d mc0 ms0) {x : Int64} (hdg : decode cc pc = .ok (.l2i, 1))  (k : pmZ E C (pc + 1) lv (.int x.toInt32 :: st) S I P ca sl) : pmZ E C pc lv (.long x :: st) S I P ca sl :=
  fun H locs ls hH hS hl => lv_l2i G.1 G.2.1 hdg rfl (k H locs ls hH hS hl)
theorem z_i2b (G : pm_G E C own cc nL d mc0 ms0) {x : Int32} (hdg : decode cc pc = .ok (.i2b, 1))  (k : pmZ E C (pc + 1) lv (.int x.toInt8.toInt32 :: st) S I P ca sl) : pmZ E C pc lv (.int x :: st) S I P ca sl :=
  fun H locs ls hH hS hl => lv_i2b G.1 G.2.1 hdg rfl (k H locs ls hH hS hl)
theorem z_i2s (G : pm_G E C own cc nL d mc0 ms0) {x : Int32} (hdg : decode cc pc = .ok (.i2s, 1))  (k : pmZ E C (pc + 1) lv (.int x.toInt16.toInt32 :: st) S I P ca sl) : pmZ E C pc lv (.int x :: st) S I P ca sl :=
  fun H locs ls hH hS hl => lv_i2s G.1 G.2.1 hdg rfl (k H locs ls hH hS hl)
theorem z_if_eq (G : pm_G E C own cc nL d mc0 ms0) {x : Int32} {off : Int} (tgt : Nat) (hdg : decode cc pc = .ok (.ifCond .eq off, 3)) (ht : (pc : Int) + off = (tgt : Int)) (kt : x = 0 → pmZ E C tgt lv (st) S I P ca sl) (kf : ¬ x = 0 → pmZ E C (pc + 3) lv (st) S I P ca sl) : pmZ E C pc lv (.int x :: st) S I P ca sl :=
  fun H locs ls hH hS hl => lv_if_eq G.1 G.2.1 hdg ht (fun h => kt h H locs ls hH hS hl) (fun h => kf h H locs ls hH hS hl)
theorem z_icmp_eq (G : pm_G E C own cc nL d mc0 ms0) {x y : Int32} {off : Int} (tgt : Nat) (hdg : decode cc pc = .ok (.if_icmp .eq off, 3)) (ht : (pc : Int) + off = (tgt : Int)) (kt : x = y → pmZ E C tgt lv (st) S I P ca sl) (kf : ¬ x = y → pmZ E C (pc + 3) lv (st) S I P ca sl) : pmZ E C pc lv (.int y :: .int x :: st) S I P ca sl :=
  fun H locs ls hH hS hl => lv_icmp_eq G.1 G.2.1 hdg ht (fun h => kt h H locs ls hH hS hl) (fun h => kf h H locs ls hH hS hl)
theorem z_if_ne (G : pm_G E C own cc nL d mc0 ms0) {x : Int32} {off : Int} (tgt : Nat) (hdg : decode cc pc = .ok (.ifCond .ne off, 3)) (ht : (pc : Int) + off = (tgt : Int)) (kt : ¬ x = 0 → pmZ E C tgt lv (st) S I P ca sl) (kf : x = 0 → pmZ E C (pc + 3) lv (st) S I P ca sl) : pmZ E C pc lv (.int x :: st) S I P ca sl :=
  fun H locs ls hH hS hl => lv_if_ne G.1 G.2.1 hdg ht (fun h => kt h H locs ls hH hS hl) (fun h => kf h H locs ls hH hS hl)
theorem z_icmp_ne (G : pm_G E C own cc nL d mc0 ms0) {x y : Int32} {off : Int} (tgt : Nat) (hdg : decode cc pc = .ok (.if_icmp .ne off, 3)) (ht : (pc : Int) + off = (tgt : Int)) (kt : ¬ x = y → pmZ E C tgt lv (st) S I P ca sl) (kf : x = y → pmZ E C (pc + 3) lv (st) S I P ca sl) : pmZ E C pc lv (.int y :: .int x :: st) S I P ca sl :=
  fun H locs ls hH hS hl => lv_icmp_ne G.1 G.2.1 hdg ht (fun h => kt h H locs ls hH hS hl) (fun h => kf h H locs ls hH hS hl)
theorem z_if_lt (G : pm_G E C own cc nL d mc0 ms0) {x : Int32} {off : Int} (tgt : Nat) (hdg : decode cc pc = .ok (.ifCond .lt off, 3)) (ht : (pc : Int) + off = (tgt : Int)) (kt : x < 0 → pmZ E C tgt lv (st) S I P ca sl) (kf : ¬ x < 0 → pmZ E C (pc + 3) lv (st) S I P ca sl) : pmZ E C pc lv (.int x :: st) S I P ca sl :=
  fun H locs ls hH hS hl => lv_if_lt G.1 G.2.1 hdg ht (fun h => kt h H locs ls hH hS hl) (fun h => kf h H locs ls hH hS hl)
theorem z_icmp_lt (G : pm_G E C own cc nL d mc0 ms0) {x y : Int32} {off : Int} (tgt : Nat) (hdg : decode cc pc = .ok (.if_icmp .lt off, 3)) (ht : (pc : Int) + off = (tgt : Int)) (kt : x < y → pmZ E C tgt lv (st) S I P ca sl) (kf : ¬ x < y → pmZ E C (pc + 3) lv (st) S I P ca sl) : pmZ E C pc lv (.int y :: .int x :: st) S I P ca sl :=
  fun H locs ls hH hS hl => lv_icmp_lt G.1 G.2.1 hdg ht (fun h => kt h H locs ls hH hS hl) (fun h => kf h H locs ls hH hS hl)
theorem z_if_ge (G : pm_G E C own cc nL d mc0 ms0) {x : Int32} {off : Int} (tgt : Nat) (hdg : decode cc pc = .ok (.ifCond .ge off, 3)) (ht : (pc : Int) + off = (tgt : Int)) (kt : 0 ≤ x → pmZ E C tgt lv (st) S I P ca sl) (kf : ¬ 0 ≤ x → pmZ E C (pc + 3) lv (st) S I P ca sl) : pmZ E C pc lv (.int x :: st) S I P ca sl :=
  fun H locs ls hH hS hl => lv_if_ge G.1 G.2.1 hdg ht (fun h => kt h H locs ls hH hS hl) (fun h => kf h H locs ls hH hS hl)
theorem z_icmp_ge (G : pm_G E C own cc nL d mc0 ms0) {x y : Int32} {off : Int} (tgt : Nat) (hdg : decode cc pc = .ok (.if_icmp .ge off, 3)) (ht : (pc : Int) + off = (tgt : Int)) (kt : y ≤ x → pmZ E C tgt lv (st) S I P ca sl) (kf : ¬ y ≤ x → pmZ E C (pc + 3) lv (st) S I P ca sl) : pmZ E C pc lv (.int y :: .int x :: st) S I P ca sl :=
  fun H locs ls hH hS hl => lv_icmp_ge G.1 G.2.1 hdg ht (fun h => kt h H locs ls hH hS hl) (fun h => kf h H locs ls hH hS hl)
theorem z_if_gt (G : pm_G E C own cc nL d mc0 ms0) {x : Int32} {off : Int} (tgt : Nat) (hdg : decode cc pc = .ok (.ifCond .gt off, 3)) (ht : (pc : Int) + off = (tgt : Int)) (kt : 0 < x → pmZ E C tgt lv (st) S I P ca sl) (kf : ¬ 0 < x → pmZ E C (pc + 3) lv (st) S I P ca sl) : pmZ E C pc lv (.int x :: st) S I P ca sl :=
  fun H locs ls hH hS hl => lv_if_gt G.1 G.2.1 hdg ht (fun h => kt h H locs ls hH hS hl) (fun h => kf h H locs ls hH hS hl)
theorem z_icmp_gt (G : pm_G E C own cc nL d mc0 ms0) {x y : Int32} {off : Int} (tgt : Nat) (hdg : decode cc pc = .ok (.if_icmp .gt off, 3)) (ht : (pc : Int) + off = (tgt : Int)) (kt : y < x → pmZ E C tgt lv (st) S I P ca sl) (kf : ¬ y < x → pmZ E C (pc + 3) lv (st) S I P ca sl) : pmZ E C pc lv (.int y :: .int x :: st) S I P ca sl :=
  fun H locs ls hH hS hl => lv_icmp_gt G.1 G.2.1 hdg ht (fun h => kt h H locs ls hH hS hl) (fun h => kf h H locs ls hH hS hl)
theorem z_if_le (G : pm_G E C own cc nL d mc0 ms0) {x : Int32} {off : Int} (tgt : Nat) (hdg : decode cc pc = .ok (.ifCond .le off, 3)) (ht : (pc : Int) + off = (tgt : Int)) (kt : x ≤ 0 → pmZ E C tgt lv (st) S I P ca sl) (kf : ¬ x ≤ 0 → pmZ E C (pc + 3) lv (st) S I P ca sl) : pmZ E C pc lv (.int x :: st) S I P ca sl :=
  fun H locs ls hH hS hl => lv_if_le G.1 G.2.1 hdg ht (fun h => kt h H locs ls hH hS hl) (fun h => kf h H locs ls hH hS hl)
theorem z_icmp_le (G : pm_G E C own cc nL d mc0 ms0) {x y : Int32} {off : Int} (tgt : Nat) (hdg : decode cc pc = .ok (.if_icmp .le off, 3)) (ht : (pc : Int) + off = (tgt : Int)) (kt : x ≤ y → pmZ E C tgt lv (st) S I P ca sl) (kf : ¬ x ≤ y → pmZ E C (pc + 3) lv (st) S I P ca sl) : pmZ E C pc lv (.int y :: .int x :: st) S I P ca sl :=
  fun H locs ls hH hS hl => lv_icmp_le G.1 G.2.1 hdg ht (fun h => kt h H locs ls hH hS hl) (fun h => kf h H locs ls hH hS hl)
theorem z_goto (G : pm_G E C own cc nL d mc0 ms0) {off : Int} (tgt : Nat) (hdg : decode cc pc = .ok (.goto off, 3)) (ht : (pc : Int) + off = (tgt : Int)) (k : pmZ E C tgt lv (st) S I P ca sl) : pmZ E C pc lv (st) S I P ca sl :=
  fun H locs ls hH hS hl => lv_goto G.1 G.2.1 hdg ht (k H locs ls hH hS hl)
theorem z_tin (G : pm_G E C own cc nL d mc0 ms0) {dflt lo hi : Int} {offs : Array Int} {len : Nat} {x : Int32} {off : Int} (tgt : Nat) (hdg : decode cc pc = .ok (.tableswitch dflt lo hi offs, len)) (h1 : ¬ x.toInt < lo) (h2 : ¬ hi < x.toInt) (ho : offs[(x.toInt - lo).toNat]? = some off) (ht : (pc : Int) + off = (tgt : Int)) (k : pmZ E C tgt lv (st) S I P ca sl) : pmZ E C pc lv (.int x :: st) S I P ca sl :=
  fun H locs ls hH hS hl => lv_tableIn G.1 G.2.1 hdg h1 h2 ho ht (k H locs ls hH hS hl)
theorem z_tout (G : pm_G E C own cc nL d mc0 ms0) {dflt lo hi : Int} {offs : Array Int} {len : Nat} {x : Int32} (tgt : Nat) (hdg : decode cc pc = .ok (.tableswitch dflt lo hi offs, len)) (h : x.toInt < lo ∨ hi < x.toInt) (ht : (pc : Int) + dflt = (tgt : Int)) (k : pmZ E C tgt lv (st) S I P ca sl) : pmZ E C pc lv (.int x :: st) S I P ca sl :=
  fun H locs ls hH hS hl => lv_tableOut G.1 G.2.1 hdg h ht (k H locs ls hH hS hl)
theorem z_dup (G : pm_G E C own cc nL d mc0 ms0) {va : Value} (hdg : decode cc pc = .ok (.dup, 1)) (hva : va.category = 1) (k : pmZ E C (pc + 1) lv (va :: va :: st) S I P ca sl) : pmZ E C pc lv (va :: st) S I P ca sl :=
  fun H locs ls hH hS hl => lv_dup G.1 G.2.1 hdg hva (k H locs ls hH hS hl)
theorem z_pop (G : pm_G E C own cc nL d mc0 ms0) {va : Value} (hdg : decode cc pc = .ok (.pop, 1)) (hva : va.category = 1) (k : pmZ E C (pc + 1) lv (st) S I P ca sl) : pmZ E C pc lv (va :: st) S I P ca sl :=
  fun H locs ls hH hS hl => lv_pop G.1 G.2.1 hdg hva (k H locs ls hH hS hl)
theorem z_dup2 (G : pm_G E C own cc nL d mc0 ms0) {va vb : Value} (hdg : decode cc pc = .ok (.dup2, 1)) (hva : va.category = 1) (hvb : vb.category = 1) (k : pmZ E C (pc + 1) lv (va :: vb :: va :: vb :: st) S I P ca sl) : pmZ E C pc lv (va :: vb :: st) S I P ca sl :=
  fun H locs ls hH hS hl => lv_dup2_11 G.1 G.2.1 hdg hva hvb (k H locs ls hH hS hl)
theorem z_ldc (G : pm_G E C own cc nL d mc0 ms0) {idx : Nat} {v : Int32} (hw : Cond.constant own idx v ∈ pm_tb) (hdg : decode cc pc = .ok (.ldc idx, 2)) (k : pmZ E C (pc + 2) lv (.int v :: st) S I P ca sl) : pmZ E C pc lv (st) S I P ca sl :=
  fun H locs ls hH hS hl => lv_ldc G.1 G.2.1 G.2.2.2.1 (G.2.2.2.2.1 _ hw) hdg (k H locs ls hH hS hl)
theorem z_ldcw (G : pm_G E C own cc nL d mc0 ms0) {idx : Nat} {v : Int32} (hw : Cond.constant own idx v ∈ pm_tb) (hdg : decode cc pc = .ok (.ldc_w idx, 3)) (k : pmZ E C (pc + 3) lv (.int v :: st) S I P ca sl) : pmZ E C pc lv (st) S I P ca sl :=
  fun H locs ls hH hS hl => lv_ldcw G.1 G.2.1 G.2.2.2.1 (G.2.2.2.2.1 _ hw) hdg (k H locs ls hH hS hl)
theorem z_ldc2 (G : pm_G E C own cc nL d mc0 ms0) {idx : Nat} {v : Int64} (hw : Cond.constantLong own idx v ∈ pm_tb) (hdg : decode cc pc = .ok (.ldc2_w idx, 3)) (k : pmZ E C (pc + 3) lv (.long v :: st) S I P ca sl) : pmZ E C pc lv (st) S I P ca sl :=
  fun H locs ls hH hS hl => lv_ldc2 G.1 G.2.1 G.2.2.2.1 (G.2.2.2.2.1 _ hw) hdg (k H locs ls hH hS hl)
/-- a field's link: class number, place, whether it is an int -/
def pm_fl (own : String) (idx ci k : Nat) : Prop := ∃ (q : vw_C), vwCl[ci]? = some q ∧ ci < 11 ∧ k < q.2.2 ∧ q.2.2 = (pm_ts ci).length ∧ Cond.fieldLink own idx q.1 (q.2.1 k).2.1 (q.2.1 k).2.2.1 ∈ pm_tb ∧ (∀ w ∈ u_ws q.1 q.2.1 q.2.2, w ∈ pm_tb) ∧ (q.2.1 k).1 = q.1
theorem z_getI (G : pm_G E C own cc nL d mc0 ms0) {idx ci j a : Nat} (L : pm_fl own idx ci j) (hI : (pm_ts ci).getD j true = true) (hdg : decode cc pc = .ok (.getfield idx, 3)) (ha : a < S.1) (hc : S.2.1 a = ci) (k : pmZ E C (pc + 3) lv (.int (I a j) :: st) S I P ca sl) : pmZ E C pc lv (rr E a :: st) S I P ca sl := by
  intro H locs ls hH hS hl
  obtain ⟨⟨Cn, T, N⟩, l1, l2, l3, l4, l5, l6, l7⟩ := L
  refine va_get (D := E.2.2.1) (ci := ci) (v := .int (I a j)) (C := Cn) (T := T) (N := N) G.1 G.2.1 G.2.2.2.2.1 l6 G.2.2.2.1 G.2.2.2.2.2.1 hH.1 a (fs := pm_fs E ci I P a) (by rw [pm_w_get ha, pm_cell_o hc l2]) l1 j l3 (G.2.2.2.2.1 _ l5) (by rw [show (T j).1 = Cn from l7]; exact fun _ h9 => h9) (by rw [pm_fs_get (by rw [← l4]; exact l3)]; simp only [pm_fv, hI, if_true]) hdg (k H locs ls hH hS hl)
theorem z_getR (G : pm_G E C own cc nL d mc0 ms0) {idx ci j a q : Nat} (L : pm_fl own idx ci j) (hI : (pm_ts ci).getD j true = false) (hdg : decode cc pc = .ok (.getfield idx, 3)) (ha : a < S.1) (hc : S.2.1 a = ci) (hp : P a j = some q) (k : pmZ E C (pc + 3) lv (rr E q :: st) S I P ca sl) : pmZ E C pc lv (rr E a :: st) S I P ca sl := by
  intro H locs ls hH hS hl
  obtain ⟨⟨Cn, T, N⟩, l1, l2, l3, l4, l5, l6, l7⟩ := L
  refine va_get (D := E.2.2.1) (ci := ci) (v := rr E q) (C := Cn) (T := T) (N := N) G.1 G.2.1 G.2.2.2.2.1 l6 G.2.2.2.1 G.2.2.2.2.2.1 hH.1 a (fs := pm_fs E ci I P a) (by rw [pm_w_get ha, pm_cell_o hc l2]) l1 j l3 (G.2.2.2.2.1 _ l5) (by rw [show (T j).1 = Cn from l7]; exact fun _ h9 => h9) (by rw [pm_fs_get (by rw [← l4]; exact l3)]; simp only [pm_fv, hI, hp]; rfl) hdg (k H locs ls hH hS hl)
/-- the class's own table of fields: names apart, types as parsed -/
def pm_ft (ci k : Nat) (fin : Bool) (ty : FieldType) : Prop := ∃ (q : vw_C) (t0 : Nat → FieldType), vwCl[ci]? = some q ∧ (∀ k, k < q.2.2 → parseFieldDescriptor (q.2.1 k).2.2.1 = some (t0 k)) ∧ (∀ a, a < q.2.2 → ∀ b, b < q.2.2 → a ≠ b → (q.2.1 a).2.1 ≠ (q.2.1 b).2.1) ∧ (q.2.1 k).2.2.2 = fin ∧ t0 k = ty
theorem z_putI (G : pm_G E C own cc nL d mc0 ms0) {idx ci j a : Nat} {ty : FieldType} {v : Int32} (L : pm_fl own idx ci j) (F : pm_ft ci j false ty) (hI : (pm_ts ci).getD j true = true) (hn : narrow ty (.int v) = .int v) (hfit : fits ty (.int v) = true) (hdg : decode cc pc = .ok (.putfield idx, 3)) (ha : a < S.1) (hc : S.2.1 a = ci) (k : pmZ E C (pc + 3) lv (st) S (va_up I a (va_up (I a) j v)) P ca sl) : pmZ E C pc lv (.int v :: rr E a :: st) S I P ca sl := by
  intro H locs ls hH hS hl
  obtain ⟨⟨Cn, T, N⟩, l1, l2, l3, l4, l5, l6, l7⟩ := L
  obtain ⟨⟨Cn', T', N'⟩, t0, f1, f2, f3, f4, f5⟩ := F
  cases l1.symm.trans f1
  refine va_put (D := E.2.2.1) (ci := ci) (v := .int v) (C := Cn) (T := T) (N := N) (A := pm_A E) G.1 G.2.1 G.2.2.2.2.1 l6 t0 f2 f3 G.2.2.2.1 G.2.2.2.2.2.1 hH.1 pm_w_D hS a (fs := pm_fs E ci I P a) (by rw [pm_w_get ha, pm_cell_o hc l2]) l1 j l3 (G.2.2.2.2.1 _ l5) (by rw [show (T j).1 = Cn from l7]; exact fun _ h9 => h9) f4 (ty := ty) (by rw [← f5]; exact f2 j l3) hn hfit (by simp only [pm_fs, List.length_map, List.length_range]; rw [← l4]; exact l3) hdg (fun H1 locs1 hP1 hD1 hS1 => ?_)
  have e : (pm_w E S I P).set a (E.2.1 + a, .inr (ci, (pm_fs E ci I P a).set j (.int v))) = pm_w E S (va_up I a (va_up (I a) j v)) P := pm_w_set (by rw [pm_cell_o hc l2, pm_fs_setI hI]) (fun i hi => pm_cell_I hi)
  rw [e] at hP1
  exact k H1 locs1 ls ⟨hP1, by have := hS1.1; sorry⟩ hS1 hl
end ROWS
