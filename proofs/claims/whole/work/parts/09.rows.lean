/-! a row an instruction -/
section ROWS
variable {E : pmE} {C : pmC} {own : String} {cc : ByteArray} {nL d mc0 ms0 : Nat} {pc : Nat} {lv : List (Option Value)} {st : List Value} {S : pmS} {I : pmI} {P : pmP} {ca sl : Nat}
theorem z_eq {pc' : Nat} {lv' : List (Option Value)} {st' : List Value} {I' : pmI} {P' : pmP} (h1 : pc = pc') (h2 : lv = lv') (h3 : st = st') (h4 : I = I') (h5 : P = P') (k : pmZ E C pc' lv' st' S I' P' ca sl) : pmZ E C pc lv st S I P ca sl := by
  subst h1 h2 h3 h4 h5
  exact k

theorem z_iconst (G : pm_G E C own cc nL d mc0 ms0) {n : Int} {v : Int32} (hdg : decode cc pc = .ok (.iconst n, 1)) (hv : Int32.ofInt n = v) (k : pmZ E C (pc + 1) lv (.int v :: st) S I P ca sl) : pmZ E C pc lv (st) S I P ca sl :=
  fun H locs ls hH hS hl hn9 => lv_iconst G.1 G.2.1 hdg hv (k H locs ls hH hS hl hn9)
theorem z_bipush (G : pm_G E C own cc nL d mc0 ms0) {n : Int} {v : Int32} (hdg : decode cc pc = .ok (.bipush n, 2)) (hv : (Int8.ofInt n).toInt32 = v) (k : pmZ E C (pc + 2) lv (.int v :: st) S I P ca sl) : pmZ E C pc lv (st) S I P ca sl :=
  fun H locs ls hH hS hl hn9 => lv_bipush G.1 G.2.1 hdg hv (k H locs ls hH hS hl hn9)
theorem z_sipush (G : pm_G E C own cc nL d mc0 ms0) {n : Int} {v : Int32} (hdg : decode cc pc = .ok (.sipush n, 3)) (hv : (Int16.ofInt n).toInt32 = v) (k : pmZ E C (pc + 3) lv (.int v :: st) S I P ca sl) : pmZ E C pc lv (st) S I P ca sl :=
  fun H locs ls hH hS hl hn9 => lv_sipush G.1 G.2.1 hdg hv (k H locs ls hH hS hl hn9)
theorem z_iload_n (G : pm_G E C own cc nL d mc0 ms0) {j : Fin 4} {x : Int32} (hdg : decode cc pc = .ok (.iload_n j, 1)) (hv : lv[(j : Nat)]? = some (some (.int x))) (k : pmZ E C (pc + 1) lv (.int x :: st) S I P ca sl) : pmZ E C pc lv (st) S I P ca sl :=
  fun H locs ls hH hS hl hn9 => lv_iload_n G.1 G.2.1 hdg rfl (hl.get hv) (k H locs ls hH hS hl hn9)
theorem z_iload (G : pm_G E C own cc nL d mc0 ms0) {j : Nat} {x : Int32} (hdg : decode cc pc = .ok (.iload j, 2)) (hv : lv[j]? = some (some (.int x))) (k : pmZ E C (pc + 2) lv (.int x :: st) S I P ca sl) : pmZ E C pc lv (st) S I P ca sl :=
  fun H locs ls hH hS hl hn9 => lv_iload G.1 G.2.1 hdg (hl.get hv) (k H locs ls hH hS hl hn9)
theorem z_lload_n (G : pm_G E C own cc nL d mc0 ms0) {j : Fin 4} {x : Int64} (hdg : decode cc pc = .ok (.lload_n j, 1)) (hv : lv[(j : Nat)]? = some (some (.long x))) (k : pmZ E C (pc + 1) lv (.long x :: st) S I P ca sl) : pmZ E C pc lv (st) S I P ca sl :=
  fun H locs ls hH hS hl hn9 => lv_lload_n G.1 G.2.1 hdg rfl (hl.get hv) (k H locs ls hH hS hl hn9)
theorem z_lload (G : pm_G E C own cc nL d mc0 ms0) {j : Nat} {x : Int64} (hdg : decode cc pc = .ok (.lload j, 2)) (hv : lv[j]? = some (some (.long x))) (k : pmZ E C (pc + 2) lv (.long x :: st) S I P ca sl) : pmZ E C pc lv (st) S I P ca sl :=
  fun H locs ls hH hS hl hn9 => lv_lload G.1 G.2.1 hdg (hl.get hv) (k H locs ls hH hS hl hn9)
theorem z_aload_n (G : pm_G E C own cc nL d mc0 ms0) {j : Fin 4} {x : Nat} (hdg : decode cc pc = .ok (.aload_n j, 1)) (hv : lv[(j : Nat)]? = some (some (rr E x))) (k : pmZ E C (pc + 1) lv (rr E x :: st) S I P ca sl) : pmZ E C pc lv (st) S I P ca sl :=
  fun H locs ls hH hS hl hn9 => lv_aload_n G.1 G.2.1 hdg rfl (hl.get hv) (k H locs ls hH hS hl hn9)
theorem z_aload (G : pm_G E C own cc nL d mc0 ms0) {j : Nat} {x : Nat} (hdg : decode cc pc = .ok (.aload j, 2)) (hv : lv[j]? = some (some (rr E x))) (k : pmZ E C (pc + 2) lv (rr E x :: st) S I P ca sl) : pmZ E C pc lv (st) S I P ca sl :=
  fun H locs ls hH hS hl hn9 => lv_aload G.1 G.2.1 hdg (hl.get hv) (k H locs ls hH hS hl hn9)
theorem z_aload_x (G : pm_G E C own cc nL d mc0 ms0) {j : Fin 4} {x : Nat} (hdg : decode cc pc = .ok (.aload_n j, 1)) (hv : lv[(j : Nat)]? = some (some (.ref x))) (k : pmZ E C (pc + 1) lv (.ref x :: st) S I P ca sl) : pmZ E C pc lv (st) S I P ca sl :=
  fun H locs ls hH hS hl hn9 => lv_aload_n G.1 G.2.1 hdg rfl (hl.get hv) (k H locs ls hH hS hl hn9)
theorem z_istore_n (G : pm_G E C own cc nL d mc0 ms0) {j : Fin 4} {x : Int32} (hdg : decode cc pc = .ok (.istore_n j, 1)) (hn : (j : Nat) < lv.length) (hok : pm_ok lv j = true) (k : pmZ E C (pc + 1) (lv.set (j : Nat) (some (.int x))) (st) S I P ca sl) : pmZ E C pc lv (.int x :: st) S I P ca sl :=
  fun H locs ls hH hS hl hn9 => lv_istore_n G.1 G.2.1 hdg rfl hl.has hn rfl (fun ls' h => k H locs ls' hH hS (pm_L.set hn hok h) hn9)
theorem z_istore (G : pm_G E C own cc nL d mc0 ms0) {j : Nat} {x : Int32} (hdg : decode cc pc = .ok (.istore j, 2)) (hn : j < lv.length) (hok : pm_ok lv j = true) (k : pmZ E C (pc + 2) (lv.set j (some (.int x))) (st) S I P ca sl) : pmZ E C pc lv (.int x :: st) S I P ca sl :=
  fun H locs ls hH hS hl hn9 => lv_istore G.1 G.2.1 hdg hl.has hn rfl (fun ls' h => k H locs ls' hH hS (pm_L.set hn hok h) hn9)
theorem z_astore_n (G : pm_G E C own cc nL d mc0 ms0) {j : Fin 4} {x : Nat} (hdg : decode cc pc = .ok (.astore_n j, 1)) (hn : (j : Nat) < lv.length) (hok : pm_ok lv j = true) (k : pmZ E C (pc + 1) (lv.set (j : Nat) (some (rr E x))) (st) S I P ca sl) : pmZ E C pc lv (rr E x :: st) S I P ca sl :=
  fun H locs ls hH hS hl hn9 => lv_astore_n G.1 G.2.1 hdg rfl hl.has hn rfl (fun ls' h => k H locs ls' hH hS (pm_L.set hn hok h) hn9)
theorem z_astore (G : pm_G E C own cc nL d mc0 ms0) {j : Nat} {x : Nat} (hdg : decode cc pc = .ok (.astore j, 2)) (hn : j < lv.length) (hok : pm_ok lv j = true) (k : pmZ E C (pc + 2) (lv.set j (some (rr E x))) (st) S I P ca sl) : pmZ E C pc lv (rr E x :: st) S I P ca sl :=
  fun H locs ls hH hS hl hn9 => lv_astore G.1 G.2.1 hdg hl.has hn rfl (fun ls' h => k H locs ls' hH hS (pm_L.set hn hok h) hn9)
theorem z_lstore_n (G : pm_G E C own cc nL d mc0 ms0) {j : Fin 4} {x : Int64} (hdg : decode cc pc = .ok (.lstore_n j, 1)) (hn : (j : Nat) + 1 < lv.length) (hok : pm_ok lv j = true) (k : pmZ E C (pc + 1) ((lv.set (j : Nat) (some (.long x))).set ((j : Nat) + 1) none) (st) S I P ca sl) : pmZ E C pc lv (.long x :: st) S I P ca sl :=
  fun H locs ls hH hS hl hn9 => lv_lstore_n G.1 G.2.1 hdg rfl hl.has hn rfl (fun ls' h => k H locs ls' hH hS (pm_L.set2 hn hok h) hn9)
theorem z_lstore (G : pm_G E C own cc nL d mc0 ms0) {j : Nat} {x : Int64} (hdg : decode cc pc = .ok (.lstore j, 2)) (hn : j + 1 < lv.length) (hok : pm_ok lv j = true) (k : pmZ E C (pc + 2) ((lv.set j (some (.long x))).set (j + 1) none) (st) S I P ca sl) : pmZ E C pc lv (.long x :: st) S I P ca sl :=
  fun H locs ls hH hS hl hn9 => lv_lstore G.1 G.2.1 hdg hl.has hn rfl (fun ls' h => k H locs ls' hH hS (pm_L.set2 hn hok h) hn9)
theorem z_iinc (G : pm_G E C own cc nL d mc0 ms0) {j : Nat} {n : Int} {x v : Int32} (hdg : decode cc pc = .ok (.iinc j n, 3)) (hv : Int32.ofInt n = v) (hx : lv[j]? = some (some (.int x))) (hok : pm_ok lv j = true) (k : pmZ E C (pc + 3) (lv.set j (some (.int (x + v)))) (st) S I P ca sl) : pmZ E C pc lv (st) S I P ca sl := by
  subst hv
  intro H locs ls hH hS hl hn9
  obtain ⟨i, hi⟩ := List.getElem?_of_mem (pm_prs_mem.mpr hx)
  have hn : j < lv.length := (List.getElem?_eq_some_iff.mp hx).1
  exact lv_iinc G.1 G.2.1 hdg hl.has hi rfl hn rfl (fun ls' h => k H locs ls' hH hS (pm_L.set hn hok h) hn9)
theorem z_iadd (G : pm_G E C own cc nL d mc0 ms0) {x y : Int32} (hdg : decode cc pc = .ok (.iadd, 1))  (k : pmZ E C (pc + 1) lv (.int (x + y) :: st) S I P ca sl) : pmZ E C pc lv (.int y :: .int x :: st) S I P ca sl :=
  fun H locs ls hH hS hl hn9 => lv_iadd G.1 G.2.1 hdg  (k H locs ls hH hS hl hn9)
theorem z_isub (G : pm_G E C own cc nL d mc0 ms0) {x y : Int32} (hdg : decode cc pc = .ok (.isub, 1))  (k : pmZ E C (pc + 1) lv (.int (x - y) :: st) S I P ca sl) : pmZ E C pc lv (.int y :: .int x :: st) S I P ca sl :=
  fun H locs ls hH hS hl hn9 => lv_isub G.1 G.2.1 hdg  (k H locs ls hH hS hl hn9)
theorem z_imul (G : pm_G E C own cc nL d mc0 ms0) {x y : Int32} (hdg : decode cc pc = .ok (.imul, 1))  (k : pmZ E C (pc + 1) lv (.int (x * y) :: st) S I P ca sl) : pmZ E C pc lv (.int y :: .int x :: st) S I P ca sl :=
  fun H locs ls hH hS hl hn9 => lv_imul G.1 G.2.1 hdg  (k H locs ls hH hS hl hn9)
theorem z_ishl (G : pm_G E C own cc nL d mc0 ms0) {x y : Int32} (hdg : decode cc pc = .ok (.ishl, 1))  (k : pmZ E C (pc + 1) lv (.int (x <<< (y &&& 31)) :: st) S I P ca sl) : pmZ E C pc lv (.int y :: .int x :: st) S I P ca sl :=
  fun H locs ls hH hS hl hn9 => lv_ishl G.1 G.2.1 hdg  (k H locs ls hH hS hl hn9)
theorem z_ishr (G : pm_G E C own cc nL d mc0 ms0) {x y : Int32} (hdg : decode cc pc = .ok (.ishr, 1))  (k : pmZ E C (pc + 1) lv (.int (x >>> (y &&& 31)) :: st) S I P ca sl) : pmZ E C pc lv (.int y :: .int x :: st) S I P ca sl :=
  fun H locs ls hH hS hl hn9 => lv_ishr G.1 G.2.1 hdg  (k H locs ls hH hS hl hn9)
theorem z_iand (G : pm_G E C own cc nL d mc0 ms0) {x y : Int32} (hdg : decode cc pc = .ok (.iand, 1))  (k : pmZ E C (pc + 1) lv (.int (x &&& y) :: st) S I P ca sl) : pmZ E C pc lv (.int y :: .int x :: st) S I P ca sl :=
  fun H locs ls hH hS hl hn9 => lv_iand G.1 G.2.1 hdg  (k H locs ls hH hS hl hn9)
theorem z_ior (G : pm_G E C own cc nL d mc0 ms0) {x y : Int32} (hdg : decode cc pc = .ok (.ior, 1))  (k : pmZ E C (pc + 1) lv (.int (x ||| y) :: st) S I P ca sl) : pmZ E C pc lv (.int y :: .int x :: st) S I P ca sl :=
  fun H locs ls hH hS hl hn9 => lv_ior G.1 G.2.1 hdg  (k H locs ls hH hS hl hn9)
theorem z_idiv (G : pm_G E C own cc nL d mc0 ms0) {x y : Int32} (hdg : decode cc pc = .ok (.idiv, 1)) (hne : ¬ y = 0) (k : pmZ E C (pc + 1) lv (.int (x / y) :: st) S I P ca sl) : pmZ E C pc lv (.int y :: .int x :: st) S I P ca sl :=
  fun H locs ls hH hS hl hn9 => lv_idiv G.1 G.2.1 hdg hne (k H locs ls hH hS hl hn9)
theorem z_irem (G : pm_G E C own cc nL d mc0 ms0) {x y : Int32} (hdg : decode cc pc = .ok (.irem, 1)) (hne : ¬ y = 0) (k : pmZ E C (pc + 1) lv (.int (x - x / y * y) :: st) S I P ca sl) : pmZ E C pc lv (.int y :: .int x :: st) S I P ca sl :=
  fun H locs ls hH hS hl hn9 => lv_irem G.1 G.2.1 hdg hne (k H locs ls hH hS hl hn9)
theorem z_ineg (G : pm_G E C own cc nL d mc0 ms0) {x : Int32} (hdg : decode cc pc = .ok (.ineg, 1))  (k : pmZ E C (pc + 1) lv (.int (-x) :: st) S I P ca sl) : pmZ E C pc lv (.int x :: st) S I P ca sl :=
  fun H locs ls hH hS hl hn9 => lv_ineg G.1 G.2.1 hdg  (k H locs ls hH hS hl hn9)
theorem z_lmul (G : pm_G E C own cc nL d mc0 ms0) {x y : Int64} (hdg : decode cc pc = .ok (.lmul, 1))  (k : pmZ E C (pc + 1) lv (.long (x * y) :: st) S I P ca sl) : pmZ E C pc lv (.long y :: .long x :: st) S I P ca sl :=
  fun H locs ls hH hS hl hn9 => lv_lmul G.1 G.2.1 hdg  (k H locs ls hH hS hl hn9)
theorem z_lrem (G : pm_G E C own cc nL d mc0 ms0) {x y : Int64} (hdg : decode cc pc = .ok (.lrem, 1)) (hne : ¬ y = 0) (k : pmZ E C (pc + 1) lv (.long (x - x / y * y) :: st) S I P ca sl) : pmZ E C pc lv (.long y :: .long x :: st) S I P ca sl :=
  fun H locs ls hH hS hl hn9 => lv_lrem G.1 G.2.1 hdg hne (k H locs ls hH hS hl hn9)
theorem z_i2l (G : pm_G E C own cc nL d mc0 ms0) {x : Int32} (hdg : decode cc pc = .ok (.i2l, 1))  (k : pmZ E C (pc + 1) lv (.long x.toInt64 :: st) S I P ca sl) : pmZ E C pc lv (.int x :: st) S I P ca sl :=
  fun H locs ls hH hS hl hn9 => lv_i2l G.1 G.2.1 hdg rfl (k H locs ls hH hS hl hn9)
theorem z_l2i (G : pm_G E C own cc nL d mc0 ms0) {x : Int64} (hdg : decode cc pc = .ok (.l2i, 1))  (k : pmZ E C (pc + 1) lv (.int x.toInt32 :: st) S I P ca sl) : pmZ E C pc lv (.long x :: st) S I P ca sl :=
  fun H locs ls hH hS hl hn9 => lv_l2i G.1 G.2.1 hdg rfl (k H locs ls hH hS hl hn9)
theorem z_i2b (G : pm_G E C own cc nL d mc0 ms0) {x : Int32} (hdg : decode cc pc = .ok (.i2b, 1))  (k : pmZ E C (pc + 1) lv (.int x.toInt8.toInt32 :: st) S I P ca sl) : pmZ E C pc lv (.int x :: st) S I P ca sl :=
  fun H locs ls hH hS hl hn9 => lv_i2b G.1 G.2.1 hdg rfl (k H locs ls hH hS hl hn9)
theorem z_i2s (G : pm_G E C own cc nL d mc0 ms0) {x : Int32} (hdg : decode cc pc = .ok (.i2s, 1))  (k : pmZ E C (pc + 1) lv (.int x.toInt16.toInt32 :: st) S I P ca sl) : pmZ E C pc lv (.int x :: st) S I P ca sl :=
  fun H locs ls hH hS hl hn9 => lv_i2s G.1 G.2.1 hdg rfl (k H locs ls hH hS hl hn9)
theorem z_if_eq (G : pm_G E C own cc nL d mc0 ms0) {x : Int32} {off : Int} (tgt : Nat) (hdg : decode cc pc = .ok (.ifCond .eq off, 3)) (ht : (pc : Int) + off = (tgt : Int)) (kt : x = 0 → pmZ E C tgt lv (st) S I P ca sl) (kf : ¬ x = 0 → pmZ E C (pc + 3) lv (st) S I P ca sl) : pmZ E C pc lv (.int x :: st) S I P ca sl :=
  fun H locs ls hH hS hl hn9 => lv_if_eq G.1 G.2.1 hdg ht (fun h => kt h H locs ls hH hS hl hn9) (fun h => kf h H locs ls hH hS hl hn9)
theorem z_icmp_eq (G : pm_G E C own cc nL d mc0 ms0) {x y : Int32} {off : Int} (tgt : Nat) (hdg : decode cc pc = .ok (.if_icmp .eq off, 3)) (ht : (pc : Int) + off = (tgt : Int)) (kt : x = y → pmZ E C tgt lv (st) S I P ca sl) (kf : ¬ x = y → pmZ E C (pc + 3) lv (st) S I P ca sl) : pmZ E C pc lv (.int y :: .int x :: st) S I P ca sl :=
  fun H locs ls hH hS hl hn9 => lv_icmp_eq G.1 G.2.1 hdg ht (fun h => kt h H locs ls hH hS hl hn9) (fun h => kf h H locs ls hH hS hl hn9)
theorem z_if_ne (G : pm_G E C own cc nL d mc0 ms0) {x : Int32} {off : Int} (tgt : Nat) (hdg : decode cc pc = .ok (.ifCond .ne off, 3)) (ht : (pc : Int) + off = (tgt : Int)) (kt : ¬ x = 0 → pmZ E C tgt lv (st) S I P ca sl) (kf : x = 0 → pmZ E C (pc + 3) lv (st) S I P ca sl) : pmZ E C pc lv (.int x :: st) S I P ca sl :=
  fun H locs ls hH hS hl hn9 => lv_if_ne G.1 G.2.1 hdg ht (fun h => kt h H locs ls hH hS hl hn9) (fun h => kf h H locs ls hH hS hl hn9)
theorem z_icmp_ne (G : pm_G E C own cc nL d mc0 ms0) {x y : Int32} {off : Int} (tgt : Nat) (hdg : decode cc pc = .ok (.if_icmp .ne off, 3)) (ht : (pc : Int) + off = (tgt : Int)) (kt : ¬ x = y → pmZ E C tgt lv (st) S I P ca sl) (kf : x = y → pmZ E C (pc + 3) lv (st) S I P ca sl) : pmZ E C pc lv (.int y :: .int x :: st) S I P ca sl :=
  fun H locs ls hH hS hl hn9 => lv_icmp_ne G.1 G.2.1 hdg ht (fun h => kt h H locs ls hH hS hl hn9) (fun h => kf h H locs ls hH hS hl hn9)
theorem z_if_lt (G : pm_G E C own cc nL d mc0 ms0) {x : Int32} {off : Int} (tgt : Nat) (hdg : decode cc pc = .ok (.ifCond .lt off, 3)) (ht : (pc : Int) + off = (tgt : Int)) (kt : x < 0 → pmZ E C tgt lv (st) S I P ca sl) (kf : ¬ x < 0 → pmZ E C (pc + 3) lv (st) S I P ca sl) : pmZ E C pc lv (.int x :: st) S I P ca sl :=
  fun H locs ls hH hS hl hn9 => lv_if_lt G.1 G.2.1 hdg ht (fun h => kt h H locs ls hH hS hl hn9) (fun h => kf h H locs ls hH hS hl hn9)
theorem z_icmp_lt (G : pm_G E C own cc nL d mc0 ms0) {x y : Int32} {off : Int} (tgt : Nat) (hdg : decode cc pc = .ok (.if_icmp .lt off, 3)) (ht : (pc : Int) + off = (tgt : Int)) (kt : x < y → pmZ E C tgt lv (st) S I P ca sl) (kf : ¬ x < y → pmZ E C (pc + 3) lv (st) S I P ca sl) : pmZ E C pc lv (.int y :: .int x :: st) S I P ca sl :=
  fun H locs ls hH hS hl hn9 => lv_icmp_lt G.1 G.2.1 hdg ht (fun h => kt h H locs ls hH hS hl hn9) (fun h => kf h H locs ls hH hS hl hn9)
theorem z_if_ge (G : pm_G E C own cc nL d mc0 ms0) {x : Int32} {off : Int} (tgt : Nat) (hdg : decode cc pc = .ok (.ifCond .ge off, 3)) (ht : (pc : Int) + off = (tgt : Int)) (kt : 0 ≤ x → pmZ E C tgt lv (st) S I P ca sl) (kf : ¬ 0 ≤ x → pmZ E C (pc + 3) lv (st) S I P ca sl) : pmZ E C pc lv (.int x :: st) S I P ca sl :=
  fun H locs ls hH hS hl hn9 => lv_if_ge G.1 G.2.1 hdg ht (fun h => kt h H locs ls hH hS hl hn9) (fun h => kf h H locs ls hH hS hl hn9)
theorem z_icmp_ge (G : pm_G E C own cc nL d mc0 ms0) {x y : Int32} {off : Int} (tgt : Nat) (hdg : decode cc pc = .ok (.if_icmp .ge off, 3)) (ht : (pc : Int) + off = (tgt : Int)) (kt : y ≤ x → pmZ E C tgt lv (st) S I P ca sl) (kf : ¬ y ≤ x → pmZ E C (pc + 3) lv (st) S I P ca sl) : pmZ E C pc lv (.int y :: .int x :: st) S I P ca sl :=
  fun H locs ls hH hS hl hn9 => lv_icmp_ge G.1 G.2.1 hdg ht (fun h => kt h H locs ls hH hS hl hn9) (fun h => kf h H locs ls hH hS hl hn9)
theorem z_if_gt (G : pm_G E C own cc nL d mc0 ms0) {x : Int32} {off : Int} (tgt : Nat) (hdg : decode cc pc = .ok (.ifCond .gt off, 3)) (ht : (pc : Int) + off = (tgt : Int)) (kt : 0 < x → pmZ E C tgt lv (st) S I P ca sl) (kf : ¬ 0 < x → pmZ E C (pc + 3) lv (st) S I P ca sl) : pmZ E C pc lv (.int x :: st) S I P ca sl :=
  fun H locs ls hH hS hl hn9 => lv_if_gt G.1 G.2.1 hdg ht (fun h => kt h H locs ls hH hS hl hn9) (fun h => kf h H locs ls hH hS hl hn9)
theorem z_icmp_gt (G : pm_G E C own cc nL d mc0 ms0) {x y : Int32} {off : Int} (tgt : Nat) (hdg : decode cc pc = .ok (.if_icmp .gt off, 3)) (ht : (pc : Int) + off = (tgt : Int)) (kt : y < x → pmZ E C tgt lv (st) S I P ca sl) (kf : ¬ y < x → pmZ E C (pc + 3) lv (st) S I P ca sl) : pmZ E C pc lv (.int y :: .int x :: st) S I P ca sl :=
  fun H locs ls hH hS hl hn9 => lv_icmp_gt G.1 G.2.1 hdg ht (fun h => kt h H locs ls hH hS hl hn9) (fun h => kf h H locs ls hH hS hl hn9)
theorem z_if_le (G : pm_G E C own cc nL d mc0 ms0) {x : Int32} {off : Int} (tgt : Nat) (hdg : decode cc pc = .ok (.ifCond .le off, 3)) (ht : (pc : Int) + off = (tgt : Int)) (kt : x ≤ 0 → pmZ E C tgt lv (st) S I P ca sl) (kf : ¬ x ≤ 0 → pmZ E C (pc + 3) lv (st) S I P ca sl) : pmZ E C pc lv (.int x :: st) S I P ca sl :=
  fun H locs ls hH hS hl hn9 => lv_if_le G.1 G.2.1 hdg ht (fun h => kt h H locs ls hH hS hl hn9) (fun h => kf h H locs ls hH hS hl hn9)
theorem z_icmp_le (G : pm_G E C own cc nL d mc0 ms0) {x y : Int32} {off : Int} (tgt : Nat) (hdg : decode cc pc = .ok (.if_icmp .le off, 3)) (ht : (pc : Int) + off = (tgt : Int)) (kt : x ≤ y → pmZ E C tgt lv (st) S I P ca sl) (kf : ¬ x ≤ y → pmZ E C (pc + 3) lv (st) S I P ca sl) : pmZ E C pc lv (.int y :: .int x :: st) S I P ca sl :=
  fun H locs ls hH hS hl hn9 => lv_icmp_le G.1 G.2.1 hdg ht (fun h => kt h H locs ls hH hS hl hn9) (fun h => kf h H locs ls hH hS hl hn9)
theorem z_goto (G : pm_G E C own cc nL d mc0 ms0) {off : Int} (tgt : Nat) (hdg : decode cc pc = .ok (.goto off, 3)) (ht : (pc : Int) + off = (tgt : Int)) (k : pmZ E C tgt lv (st) S I P ca sl) : pmZ E C pc lv (st) S I P ca sl :=
  fun H locs ls hH hS hl hn9 => lv_goto G.1 G.2.1 hdg ht (k H locs ls hH hS hl hn9)
theorem z_tin (G : pm_G E C own cc nL d mc0 ms0) {dflt lo hi : Int} {offs : Array Int} {len : Nat} {x : Int32} {off : Int} (tgt : Nat) (hdg : decode cc pc = .ok (.tableswitch dflt lo hi offs, len)) (h1 : ¬ x.toInt < lo) (h2 : ¬ hi < x.toInt) (ho : offs[(x.toInt - lo).toNat]? = some off) (ht : (pc : Int) + off = (tgt : Int)) (k : pmZ E C tgt lv (st) S I P ca sl) : pmZ E C pc lv (.int x :: st) S I P ca sl :=
  fun H locs ls hH hS hl hn9 => lv_tableIn G.1 G.2.1 hdg h1 h2 ho ht (k H locs ls hH hS hl hn9)
theorem z_tout (G : pm_G E C own cc nL d mc0 ms0) {dflt lo hi : Int} {offs : Array Int} {len : Nat} {x : Int32} (tgt : Nat) (hdg : decode cc pc = .ok (.tableswitch dflt lo hi offs, len)) (h : x.toInt < lo ∨ hi < x.toInt) (ht : (pc : Int) + dflt = (tgt : Int)) (k : pmZ E C tgt lv (st) S I P ca sl) : pmZ E C pc lv (.int x :: st) S I P ca sl :=
  fun H locs ls hH hS hl hn9 => lv_tableOut G.1 G.2.1 hdg h ht (k H locs ls hH hS hl hn9)
theorem z_dup (G : pm_G E C own cc nL d mc0 ms0) {va : Value} (hdg : decode cc pc = .ok (.dup, 1)) (hva : va.category = 1) (k : pmZ E C (pc + 1) lv (va :: va :: st) S I P ca sl) : pmZ E C pc lv (va :: st) S I P ca sl :=
  fun H locs ls hH hS hl hn9 => lv_dup G.1 G.2.1 hdg hva (k H locs ls hH hS hl hn9)
theorem z_pop (G : pm_G E C own cc nL d mc0 ms0) {va : Value} (hdg : decode cc pc = .ok (.pop, 1)) (hva : va.category = 1) (k : pmZ E C (pc + 1) lv (st) S I P ca sl) : pmZ E C pc lv (va :: st) S I P ca sl :=
  fun H locs ls hH hS hl hn9 => lv_pop G.1 G.2.1 hdg hva (k H locs ls hH hS hl hn9)
theorem z_dup2 (G : pm_G E C own cc nL d mc0 ms0) {va vb : Value} (hdg : decode cc pc = .ok (.dup2, 1)) (hva : va.category = 1) (hvb : vb.category = 1) (k : pmZ E C (pc + 1) lv (va :: vb :: va :: vb :: st) S I P ca sl) : pmZ E C pc lv (va :: vb :: st) S I P ca sl :=
  fun H locs ls hH hS hl hn9 => lv_dup2_11 G.1 G.2.1 hdg hva hvb (k H locs ls hH hS hl hn9)
theorem z_ldc (G : pm_G E C own cc nL d mc0 ms0) {idx : Nat} {v : Int32} (hw : Cond.constant own idx v ∈ pm_tb) (hdg : decode cc pc = .ok (.ldc idx, 2)) (k : pmZ E C (pc + 2) lv (.int v :: st) S I P ca sl) : pmZ E C pc lv (st) S I P ca sl :=
  fun H locs ls hH hS hl hn9 => lv_ldc G.1 G.2.1 G.2.2.2.1 (G.2.2.2.2.1 _ hw) hdg (k H locs ls hH hS hl hn9)
theorem z_ldcw (G : pm_G E C own cc nL d mc0 ms0) {idx : Nat} {v : Int32} (hw : Cond.constant own idx v ∈ pm_tb) (hdg : decode cc pc = .ok (.ldc_w idx, 3)) (k : pmZ E C (pc + 3) lv (.int v :: st) S I P ca sl) : pmZ E C pc lv (st) S I P ca sl :=
  fun H locs ls hH hS hl hn9 => lv_ldcw G.1 G.2.1 G.2.2.2.1 (G.2.2.2.2.1 _ hw) hdg (k H locs ls hH hS hl hn9)
theorem z_ldc2 (G : pm_G E C own cc nL d mc0 ms0) {idx : Nat} {v : Int64} (hw : Cond.constantLong own idx v ∈ pm_tb) (hdg : decode cc pc = .ok (.ldc2_w idx, 3)) (k : pmZ E C (pc + 3) lv (.long v :: st) S I P ca sl) : pmZ E C pc lv (st) S I P ca sl :=
  fun H locs ls hH hS hl hn9 => lv_ldc2 G.1 G.2.1 G.2.2.2.1 (G.2.2.2.2.1 _ hw) hdg (k H locs ls hH hS hl hn9)
def OB (S : pmS) (a ci : Nat) : Prop := a < S.1 ∧ S.2.1 a = ci
def AR (S : pmS) (a c n : Nat) : Prop := a < S.1 ∧ S.2.1 a = c ∧ S.2.2 a = n
/-- a field's link: class number, place, whether it is an int -/
def pm_fl (own : String) (idx ci k : Nat) : Prop := ∃ (q : vw_C), vwCl[ci]? = some q ∧ ci < 11 ∧ k < q.2.2 ∧ q.2.2 = (pm_ts ci).length ∧ Cond.fieldLink own idx q.1 (q.2.1 k).2.1 (q.2.1 k).2.2.1 ∈ pm_tb ∧ (∀ w ∈ u_ws q.1 q.2.1 q.2.2, w ∈ pm_tb) ∧ (q.2.1 k).1 = q.1
theorem z_getI (G : pm_G E C own cc nL d mc0 ms0) {idx ci j a : Nat} (L : pm_fl own idx ci j) (hI : (pm_ts ci).getD j true = true) (hdg : decode cc pc = .ok (.getfield idx, 3)) (ho : OB S a ci) (k : pmZ E C (pc + 3) lv (.int (I a j) :: st) S I P ca sl) : pmZ E C pc lv (rr E a :: st) S I P ca sl := by
  intro H locs ls hH hS hl hn9
  obtain ⟨ha, hc⟩ := ho
  obtain ⟨⟨Cn, T, N⟩, l1, l2, l3, l4, l5, l6, l7⟩ := L
  refine va_get (D := E.2.2.1) (ci := ci) (v := .int (I a j)) (C := Cn) (T := T) (N := N) G.1 G.2.1 G.2.2.2.2.1 l6 G.2.2.2.1 G.2.2.2.2.2.1 hH a (fs := pm_fs E ci I P a) (by rw [pm_w_get ha, pm_cell_o hc l2]) l1 j l3 (G.2.2.2.2.1 _ l5) (by rw [show (T j).1 = Cn from l7]; exact fun _ h9 => h9) (by rw [pm_fs_get (by rw [← l4]; exact l3)]; simp only [pm_fv, hI, if_true]) hdg (k H locs ls hH hS hl hn9)
theorem z_getR (G : pm_G E C own cc nL d mc0 ms0) {idx ci j a q : Nat} (L : pm_fl own idx ci j) (hI : (pm_ts ci).getD j true = false) (hdg : decode cc pc = .ok (.getfield idx, 3)) (ho : OB S a ci) (hp : P a j = some q) (k : pmZ E C (pc + 3) lv (rr E q :: st) S I P ca sl) : pmZ E C pc lv (rr E a :: st) S I P ca sl := by
  intro H locs ls hH hS hl hn9
  obtain ⟨ha, hc⟩ := ho
  obtain ⟨⟨Cn, T, N⟩, l1, l2, l3, l4, l5, l6, l7⟩ := L
  refine va_get (D := E.2.2.1) (ci := ci) (v := rr E q) (C := Cn) (T := T) (N := N) G.1 G.2.1 G.2.2.2.2.1 l6 G.2.2.2.1 G.2.2.2.2.2.1 hH a (fs := pm_fs E ci I P a) (by rw [pm_w_get ha, pm_cell_o hc l2]) l1 j l3 (G.2.2.2.2.1 _ l5) (by rw [show (T j).1 = Cn from l7]; exact fun _ h9 => h9) (by rw [pm_fs_get (by rw [← l4]; exact l3)]; simp only [pm_fv, hI, hp]; rfl) hdg (k H locs ls hH hS hl hn9)
/-- the class's own table of fields: names apart, types as parsed -/
def pm_ft (ci k : Nat) (fin : Bool) (ty : FieldType) : Prop := ∃ (q : vw_C) (t0 : Nat → FieldType), vwCl[ci]? = some q ∧ (∀ k, k < q.2.2 → parseFieldDescriptor (q.2.1 k).2.2.1 = some (t0 k)) ∧ (∀ a, a < q.2.2 → ∀ b, b < q.2.2 → a ≠ b → (q.2.1 a).2.1 ≠ (q.2.1 b).2.1) ∧ (q.2.1 k).2.2.2 = fin ∧ t0 k = ty
theorem z_putI (G : pm_G E C own cc nL d mc0 ms0) {idx ci j a : Nat} {ty : FieldType} {v : Int32} (L : pm_fl own idx ci j) (F : pm_ft ci j false ty) (hI : (pm_ts ci).getD j true = true) (hn : narrow ty (.int v) = .int v) (hfit : fits ty (.int v) = true) (hdg : decode cc pc = .ok (.putfield idx, 3)) (ho : OB S a ci) (k : pmZ E C (pc + 3) lv (st) S (va_up I a (va_up (I a) j v)) P ca sl) : pmZ E C pc lv (.int v :: rr E a :: st) S I P ca sl := by
  intro H locs ls hH hS hl hn9
  obtain ⟨ha, hc⟩ := ho
  obtain ⟨⟨Cn, T, N⟩, l1, l2, l3, l4, l5, l6, l7⟩ := L
  obtain ⟨⟨Cn', T', N'⟩, t0, f1, f2, f3, f4, f5⟩ := F
  cases l1.symm.trans f1
  refine va_put (D := E.2.2.1) (ci := ci) (v := .int v) (C := Cn) (T := T) (N := N) (A := pm_A E) G.1 G.2.1 G.2.2.2.2.1 l6 t0 f2 f3 G.2.2.2.1 G.2.2.2.2.2.1 hH pm_w_D hS a (fs := pm_fs E ci I P a) (by rw [pm_w_get ha, pm_cell_o hc l2]) l1 j l3 (G.2.2.2.2.1 _ l5) (by rw [show (T j).1 = Cn from l7]; exact fun _ h9 => h9) f4 (ty := ty) (by rw [← f5]; exact f2 j l3) hn hfit (by simp only [pm_fs, List.length_map, List.length_range]; rw [← l4]; exact l3) hdg (fun H1 locs1 hP1 hD1 hS1 => ?_)
  have e : (pm_w E S I P).set a (E.2.1 + a, .inr (ci, (pm_fs E ci I P a).set j (.int v))) = pm_w E S (va_up I a (va_up (I a) j v)) P := pm_w_set (by rw [pm_cell_o hc l2, pm_fs_setI hI]) (fun i hi => pm_cell_I hi)
  rw [e] at hP1
  exact k H1 locs1 ls hP1 hS1 hl hn9
theorem vp_in_t {i : Int32} {j n : Nat} (hi : i.toInt = (j : Int)) (hj : j < n) : vp_in i n ∧ i.toNatClampNeg = j := by
  have h : i.toNatClampNeg = j := by show i.toInt.toNat = j; omega
  refine ⟨fun q => ?_, h⟩
  rcases q with q | q
  · have := Int32.lt_iff_toInt_lt.mp q
    simp at this
    omega
  · omega
theorem z_iald (G : pm_G E C own cc nL d mc0 ms0) {a n : Nat} {i : Int32} (j : Nat) (hdg : decode cc pc = .ok (.iaload, 1)) (ho : AR S a 11 n) (hi : i.toInt = (j : Int)) (hj : j < n) (k : pmZ E C (pc + 1) lv (.int (I a j) :: st) S I P ca sl) : pmZ E C pc lv (.int i :: rr E a :: st) S I P ca sl := by
  intro H locs ls hH hS hl hn9
  obtain ⟨ha, hc, hn⟩ := ho
  obtain ⟨h1, h2⟩ := vp_in_t hi hj
  refine va_iald G.1 G.2.1 G.2.2.2.2.2.1 hH a 0 (f := I a) (cA := E.2.2.2.1 11) (n := n) (by rw [pm_w_get ha, pm_cell_i hc (by decide) (by decide) hn]) rfl h1 hdg ?_
  rw [h2]
  exact k H locs ls hH hS hl hn9
theorem z_bald (G : pm_G E C own cc nL d mc0 ms0) {a n : Nat} {i : Int32} (j : Nat) (hdg : decode cc pc = .ok (.baload, 1)) (ho : AR S a 12 n) (hi : i.toInt = (j : Int)) (hj : j < n) (k : pmZ E C (pc + 1) lv (.int (I a j) :: st) S I P ca sl) : pmZ E C pc lv (.int i :: rr E a :: st) S I P ca sl := by
  intro H locs ls hH hS hl hn9
  obtain ⟨ha, hc, hn⟩ := ho
  obtain ⟨h1, h2⟩ := vp_in_t hi hj
  refine va_zald G.1 G.2.1 G.2.2.2.2.2.1 hH a 1 (f := I a) (cA := E.2.2.2.1 12) (n := n) (by rw [pm_w_get ha, pm_cell_i hc (by decide) (by decide) hn]) rfl h1 hdg ?_
  rw [h2]
  exact k H locs ls hH hS hl hn9
theorem z_iast (G : pm_G E C own cc nL d mc0 ms0) {a n : Nat} {i x : Int32} (j : Nat) (hdg : decode cc pc = .ok (.iastore, 1)) (ho : AR S a 11 n) (hi : i.toInt = (j : Int)) (hj : j < n) (k : pmZ E C (pc + 1) lv (st) S (va_up I a (va_up (I a) j x)) P ca sl) : pmZ E C pc lv (.int x :: .int i :: rr E a :: st) S I P ca sl := by
  intro H locs ls hH hS hl hn9
  obtain ⟨ha, hc, hn⟩ := ho
  obtain ⟨h1, h2⟩ := vp_in_t hi hj
  refine va_iast G.1 G.2.1 G.2.2.2.2.2.1 hH (pm_w_D (E := E)) hS a 0 (f := I a) (cA := E.2.2.2.1 11) (n := n) (by rw [pm_w_get ha, pm_cell_i hc (by decide) (by decide) hn]) rfl h1 hdg (fun H1 locs1 hP1 hD1 hS1 => ?_)
  rw [h2] at hP1
  have e : (pm_w E S I P).set a (E.2.1 + a, .inl (E.2.2.2.1 11, n, .inl (upd (I a) j x))) = pm_w E S (va_up I a (va_up (I a) j x)) P := pm_w_set (by rw [pm_cell_i hc (by decide) (by decide) hn, va_up_self]; rfl) (fun i hi => pm_cell_I hi)
  rw [e] at hP1
  exact k H1 locs1 ls hP1 hS1 hl hn9
theorem z_bast (G : pm_G E C own cc nL d mc0 ms0) {a n : Nat} {i x : Int32} (j : Nat) (hdg : decode cc pc = .ok (.bastore, 1)) (ho : AR S a 12 n) (hi : i.toInt = (j : Int)) (hj : j < n) (hx : vp_nar .boolean x = x) (k : pmZ E C (pc + 1) lv (st) S (va_up I a (va_up (I a) j x)) P ca sl) : pmZ E C pc lv (.int x :: .int i :: rr E a :: st) S I P ca sl := by
  intro H locs ls hH hS hl hn9
  obtain ⟨ha, hc, hn⟩ := ho
  obtain ⟨h1, h2⟩ := vp_in_t hi hj
  refine va_zast G.1 G.2.1 G.2.2.2.2.2.1 hH (pm_w_D (E := E)) hS a 1 (f := I a) (cA := E.2.2.2.1 12) (n := n) (by rw [pm_w_get ha, pm_cell_i hc (by decide) (by decide) hn]) rfl h1 hdg (fun H1 locs1 hP1 hD1 hS1 => ?_)
  rw [h2, hx] at hP1
  have e : (pm_w E S I P).set a (E.2.1 + a, .inl (E.2.2.2.1 12, n, .inl (upd (I a) j x))) = pm_w E S (va_up I a (va_up (I a) j x)) P := pm_w_set (by rw [pm_cell_i hc (by decide) (by decide) hn, va_up_self]; rfl) (fun i hi => pm_cell_I hi)
  rw [e] at hP1
  exact k H1 locs1 ls hP1 hS1 hl hn9
theorem z_aald (G : pm_G E C own cc nL d mc0 ms0) {a n c q : Nat} {Cn : String} {i : Int32} (t0 j : Nat) (ht : (pm_tys E)[t0]? = some (E.2.2.2.1 c, .object Cn)) (hc13 : ¬ c < 13) (hdg : decode cc pc = .ok (.aaload, 1)) (ho : AR S a c n) (hi : i.toInt = (j : Int)) (hj : j < n) (hp : P a j = some q) (k : pmZ E C (pc + 1) lv (rr E q :: st) S I P ca sl) : pmZ E C pc lv (.int i :: rr E a :: st) S I P ca sl := by
  intro H locs ls hH hS hl hn9
  obtain ⟨ha, hc, hn⟩ := ho
  obtain ⟨h1, h2⟩ := vp_in_t hi hj
  refine va_aldq (C := Cn) G.1 G.2.1 G.2.2.2.2.2.1 hH a t0 (f := fun j => pm_rv E (P a j)) (cA := E.2.2.2.1 c) (n := n) (by rw [pm_w_get ha, pm_cell_q hc hc13 hn]) ht h1 hdg ?_
  rw [h2, hp]
  exact k H locs ls hH hS hl hn9
theorem z_aast (G : pm_G E C own cc nL d mc0 ms0) {a n c q ci : Nat} {r : vw_C} {i : Int32} (t0 j : Nat) (ht : (pm_tys E)[t0]? = some (E.2.2.2.1 c, .object r.1)) (hr : vwCl[ci]? = some r) (hci : ci < 11) (hc13 : ¬ c < 13) (hdg : decode cc pc = .ok (.aastore, 1)) (ho : AR S a c n) (hi : i.toInt = (j : Int)) (hj : j < n) (hq : OB S q ci) (k : pmZ E C (pc + 1) lv (st) S I (va_up P a (va_up (P a) j (some q))) ca sl) : pmZ E C pc lv (rr E q :: .int i :: rr E a :: st) S I P ca sl := by
  intro H locs ls hH hS hl hn9
  obtain ⟨ha, hc, hn⟩ := ho
  obtain ⟨hq1, hq2⟩ := hq
  obtain ⟨h1, h2⟩ := vp_in_t hi hj
  refine va_astq (r := r) (vs := pm_fs E ci I P q) G.1 G.2.1 G.2.2.2.2.2.1 hH (pm_w_D (E := E)) hS a t0 q ci (f := fun j => pm_rv E (P a j)) (cA := E.2.2.2.1 c) (n := n) (by rw [pm_w_get ha, pm_cell_q hc hc13 hn]) ht (by rw [pm_w_get hq1, pm_cell_o hq2 hci]) hr h1 hdg (fun H1 locs1 hP1 hD1 hS1 => ?_)
  rw [h2] at hP1
  have e : (pm_w E S I P).set a (E.2.1 + a, .inl (E.2.2.2.1 c, n, .inr (.inr (.inr (.inr (va_up (fun j => pm_rv E (P a j)) j (some (E.2.1 + q)))))))) = pm_w E S I (va_up P a (va_up (P a) j (some q))) := pm_w_set (by
    rw [pm_cell_q hc hc13 hn, va_up_self]
    congr 7
    funext x
    by_cases hx : x = j
    · subst hx
      simp only [va_up_self]
      rfl
    · simp only [va_up_ne _ _ hx]) (fun i hi => pm_cell_P hi)
  rw [e] at hP1
  exact k H1 locs1 ls hP1 hS1 hl hn9
theorem z_alen (G : pm_G E C own cc nL d mc0 ms0) {a n c : Nat} {ty : FieldType} {v : Int32} (t0 : Nat) (ht : (pm_tys E)[t0]? = some (E.2.2.2.1 c, ty)) (hc11 : ¬ c < 11) (hdg : decode cc pc = .ok (.arraylength, 1)) (ho : AR S a c n) (hv : Int32.ofNat n = v) (k : pmZ E C (pc + 1) lv (.int v :: st) S I P ca sl) : pmZ E C pc lv (rr E a :: st) S I P ca sl := by
  intro H locs ls hH hS hl hn9
  obtain ⟨ha, hc, hn⟩ := ho
  by_cases h13 : c < 13
  · exact va_alen G.1 G.2.1 G.2.2.2.2.2.1 hH a t0 (cA := E.2.2.2.1 c) (x := (n, .inl (I a))) (by rw [pm_w_get ha, pm_cell_i hc hc11 h13 hn]) ht hv hdg (k H locs ls hH hS hl hn9)
  · exact va_alen G.1 G.2.1 G.2.2.2.2.2.1 hH a t0 (cA := E.2.2.2.1 c) (x := (n, .inr (.inr (.inr (.inr (fun j => pm_rv E (P a j))))))) (by rw [pm_w_get ha, pm_cell_q hc h13 hn]) ht hv hdg (k H locs ls hH hS hl hn9)
/-- a static table's address on the stack -/
def rs (E : pmE) (i : Nat) : Value := .ref (E.2.2.2.2 i)
theorem z_gets (G : pm_G E C own cc nL d mc0 ms0) {idx : Nat} {ref : String} (i : Nat) (h3 : i < 3) (hw : Cond.fieldLink own idx ref (pm_sc i).2 "[I" ∈ pm_tb) (hr : ref = (pm_sc i).1) (hdg : decode cc pc = .ok (.getstatic idx, 3)) (k : pmZ E C (pc + 3) lv (rs E i :: st) S I P ca sl) : pmZ E C pc lv (st) S I P ca sl := by
  intro H locs ls hH hS hl hn9
  subst hr
  exact va_gets G.1 G.2.1 (G.2.2.2.2.2.2.1 i h3).1 hS G.2.2.2.1 (G.2.2.2.2.1 _ hw) (fun _ h => h) hdg (k H locs ls hH hS hl hn9)
theorem z_getsN (G : pm_G E C own cc nL d mc0 ms0) {idx : Nat} {ref host : String} (i : Nat) (h3 : i < 3) (hw : ∀ s, pm_N s → va_Nw (.fieldLinkNest own idx ref (pm_sc i).2 "[I" host) s) (hr : ref = (pm_sc i).1) (hdg : decode cc pc = .ok (.getstatic idx, 3)) (k : pmZ E C (pc + 3) lv (rs E i :: st) S I P ca sl) : pmZ E C pc lv (st) S I P ca sl := by
  intro H locs ls hH hS hl hn9
  subst hr
  exact va_getsN G.1 G.2.1 (G.2.2.2.2.2.2.1 i h3).1 hS G.2.2.2.1 (va_Nw.use rfl (hw _ G.2.2.2.2.2.2.2.2.2.2)) (fun _ h => h) hdg (k H locs ls hH hS hl hn9)
theorem z_tald (G : pm_G E C own cc nL d mc0 ms0) {x : Int32} (i j : Nat) (h3 : i < 3) (hdg : decode cc pc = .ok (.iaload, 1)) (hi : x.toInt = (j : Int)) (hj : j < 6) (k : pmZ E C (pc + 1) lv (.int (pm_st i j) :: st) S I P ca sl) : pmZ E C pc lv (.int x :: rs E i :: st) S I P ca sl := by
  intro H locs ls hH hS hl hn9
  obtain ⟨h1, h2⟩ := vp_in_t hi hj
  exact va_ti G.1 G.2.1 (G.2.2.2.2.2.2.1 i h3).2 hS h1 (v := .int (pm_st i j)) (by rw [h2]) hdg (k H locs ls hH hS hl hn9)
theorem z_tlen (G : pm_G E C own cc nL d mc0 ms0) (i : Nat) (h3 : i < 3) (hdg : decode cc pc = .ok (.arraylength, 1)) (k : pmZ E C (pc + 1) lv (.int 6 :: st) S I P ca sl) : pmZ E C pc lv (rs E i :: st) S I P ca sl := by
  intro H locs ls hH hS hl hn9
  exact va_tlen G.1 G.2.1 (G.2.2.2.2.2.2.1 i h3).2 hS rfl hdg (k H locs ls hH hS hl hn9)
theorem z_mmax (G : pm_G E C own cc nL (d + 1) mc0 ms0) {idx : Nat} {x y : Int32} (hl1 : Cond.methodLink own idx Lib.Math.max.name ∈ pm_tb) (h2 : Cond.static Lib.Math.max.name ∈ pm_tb) (h3 : Cond.initialized "java/lang/Math" ∈ pm_tb) (h4 : Cond.code Lib.Math.max.name Lib.Math.max.code 2 (some .int) ∈ pm_tb) (hdg : decode cc pc = .ok (.invokestatic idx, 3)) (hnL : lv.length = nL) (hW : (st.map fun v => v.category).sum ≤ 8) (hca : ca ≤ mc0 ∧ sl ≤ ms0) (k : pmZ E C (pc + 3) lv (.int (if x < y then y else x) :: st) S I P ca sl) : pmZ E C pc lv (.int y :: .int x :: st) S I P ca sl := by
  intro H locs ls hH hS hl hn9
  have hR := G.2.2.2.2.2.2.2.1
  exact va_mmax G.1 G.2.1 (by rw [G.2.2.1, hl.1, hnL]) G.2.2.2.1 (G.2.2.2.2.1 _ hl1) (G.2.2.2.2.1 _ h2) (G.2.2.2.2.1 _ h3) (G.2.2.2.2.1 _ h4) (by omega) (by omega) (by rw [hR.2.2.1]; exact hca.1) (by rw [hR.2.2.2]; exact hca.2) hdg (k H locs ls hH hS hl hn9)
theorem z_mmin (G : pm_G E C own cc nL (d + 1) mc0 ms0) {idx : Nat} {x y : Int32} (hl1 : Cond.methodLink own idx Lib.Math.min.name ∈ pm_tb) (h2 : Cond.static Lib.Math.min.name ∈ pm_tb) (h3 : Cond.initialized "java/lang/Math" ∈ pm_tb) (h4 : Cond.code Lib.Math.min.name Lib.Math.min.code 2 (some .int) ∈ pm_tb) (hdg : decode cc pc = .ok (.invokestatic idx, 3)) (hnL : lv.length = nL) (hW : (st.map fun v => v.category).sum ≤ 8) (hca : ca ≤ mc0 ∧ sl ≤ ms0) (k : pmZ E C (pc + 3) lv (.int (if y < x then y else x) :: st) S I P ca sl) : pmZ E C pc lv (.int y :: .int x :: st) S I P ca sl := by
  intro H locs ls hH hS hl hn9
  have hR := G.2.2.2.2.2.2.2.1
  exact va_mmin G.1 G.2.1 (by rw [G.2.2.1, hl.1, hnL]) G.2.2.2.1 (G.2.2.2.2.1 _ hl1) (G.2.2.2.2.1 _ h2) (G.2.2.2.2.1 _ h3) (G.2.2.2.2.1 _ h4) (by omega) (by omega) (by rw [hR.2.2.1]; exact hca.1) (by rw [hR.2.2.2]; exact hca.2) hdg (k H locs ls hH hS hl hn9)
theorem z_copy (G : pm_G E C own cc nL (d + 1) mc0 ms0) {idx a0 a n0 n1 : Nat} {sp dp n : Int32} (j0 j1 m : Nat) (hl1 : Cond.methodLink own idx arraycopyName ∈ pm_tb) (h2 : Cond.native arraycopyName ∈ pm_tb) (h3 : Cond.static arraycopyName ∈ pm_tb) (h4 : Cond.initialized "java/lang/System" ∈ pm_tb) (hdg : decode cc pc = .ok (.invokestatic idx, 3)) (hnL : lv.length = nL) (hW : (st.map fun v => v.category).sum ≤ 8) (ho0 : AR S a0 11 n0) (ho1 : AR S a 11 n1)
    (hi0 : sp.toInt = (j0 : Int)) (hi1 : dp.toInt = (j1 : Int)) (him : n.toInt = (m : Int)) (hj0 : j0 + m ≤ n0) (hj1 : j1 + m ≤ n1) (k : pmZ E C (pc + 3) lv (st) S (va_up I a (va_cpy (I a0) (I a) j0 j1 m)) P ca sl) : pmZ E C pc lv (.int n :: .int dp :: rr E a :: .int sp :: rr E a0 :: st) S I P ca sl := by
  intro H locs ls hH hS hl hn9
  obtain ⟨ha, hc, hn⟩ := ho0
  obtain ⟨ha1, hc1, hn1⟩ := ho1
  have hR := G.2.2.2.2.2.2.2.1
  have cl : ∀ {x : Int32} {j : Nat}, x.toInt = (j : Int) → x.toNatClampNeg = j := fun {x j} h => by show x.toInt.toNat = j; omega
  have nn : ∀ {x : Int32} {j : Nat}, x.toInt = (j : Int) → ¬ x < 0 := fun {x j} h q => by
    have := Int32.lt_iff_toInt_lt.mp q
    simp at this
    omega
  have hw : nativeFrameWords "java/lang/System" "arraycopy" 5 ≤ 20 := by decide
  refine va_copyi (ty := .int) G.1 G.2.1 (by rw [G.2.2.1, hl.1, hnL]) G.2.2.2.1 (G.2.2.2.2.1 _ hl1) (G.2.2.2.2.1 _ h2) (G.2.2.2.2.1 _ h3) (G.2.2.2.2.1 _ h4) G.2.2.2.2.2.1 hH (pm_w_D (E := E)) hS a0 a 0 0 (f := I a0) (g := I a) (by rw [pm_w_get ha, pm_cell_i hc (by decide) (by decide) hn]) (by rw [pm_w_get ha1, pm_cell_i hc1 (by decide) (by decide) hn1]) rfl rfl rfl (nn hi0) (nn hi1) (nn him) (by rw [cl hi0, cl him]; exact hj0) (by rw [cl hi1, cl him]; exact hj1) (fun _ _ => rfl) (by omega) (by omega) hdg (fun H1 locs1 hP1 hD1 hS1 => ?_)
  rw [cl hi0, cl hi1, cl him] at hP1
  have e : (pm_w E S I P).set a (E.2.1 + a, .inl (E.2.2.2.1 11, n1, .inl (va_cpy (I a0) (I a) j0 j1 m))) = pm_w E S (va_up I a (va_cpy (I a0) (I a) j0 j1 m)) P := pm_w_set (by rw [pm_cell_i hc1 (by decide) (by decide) hn1, va_up_self]) (fun i hi => pm_cell_I hi)
  rw [e] at hP1
  exact k H1 locs1 ls hP1 hS1 hl hn9
theorem z_iret (G : pm_G E C own cc nL d mc0 ms0) {n : Nat} {R : Option Value → pmS → pmI → pmP → Prop} {v : Int32} (hq : pm_R E C (some .int) n mc0 ms0 R) (hdg : decode cc pc = .ok (.ireturn, 1)) (h : R (some (.int v)) S I P) : pmZ E C pc lv ([.int v]) S I P mc0 ms0 := by
  intro H locs ls hH hS hl hn9
  obtain ⟨q1, q2, q3⟩ := hq
  rw [q2]
  exact W.iret (v := v) G.1 G.2.1 q1 (fun t ht hW => ⟨⟨some (.int v), S, I, P, rfl, h, by rw [ht]; exact hH, by omega⟩, hS.F ht⟩) hS.2.2 hdg G.2.2.2.2.2.2.2.2.2.1
theorem z_zret (G : pm_G E C own cc nL d mc0 ms0) {n : Nat} {R : Option Value → pmS → pmI → pmP → Prop} {v : Int32} (hq : pm_R E C (some .boolean) n mc0 ms0 R) (hdg : decode cc pc = .ok (.ireturn, 1)) (hv : narrow .boolean (.int v) = .int v) (h : R (some (.int v)) S I P) : pmZ E C pc lv ([.int v]) S I P mc0 ms0 := by
  intro H locs ls hH hS hl hn9
  obtain ⟨q1, q2, q3⟩ := hq
  rw [q2]
  exact W.zret (v := v) G.1 G.2.1 q1 hv (fun t ht hW => ⟨⟨some (.int v), S, I, P, rfl, h, by rw [ht]; exact hH, by omega⟩, hS.F ht⟩) hS.2.2 hdg G.2.2.2.2.2.2.2.2.2.1
theorem z_vret (G : pm_G E C own cc nL d mc0 ms0) {n : Nat} {R : Option Value → pmS → pmI → pmP → Prop} (hq : pm_R E C none n mc0 ms0 R) (hdg : decode cc pc = .ok (.return_, 1)) (h : R none S I P) : pmZ E C pc lv ([]) S I P mc0 ms0 := by
  intro H locs ls hH hS hl hn9
  obtain ⟨q1, q2, q3⟩ := hq
  rw [q2]
  exact W.vret G.1 G.2.1 q1 (fun t ht hW => ⟨⟨none, S, I, P, rfl, h, by rw [ht]; exact hH, by omega⟩, hS.F ht⟩) hS.2.2 hdg G.2.2.2.2.2.2.2.2.2.1
theorem z_aret (G : pm_G E C own cc nL d mc0 ms0) {n a : Nat} {Cn : String} {R : Option Value → pmS → pmI → pmP → Prop} (hq : pm_R E C (some (.object Cn)) n mc0 ms0 R) (hdg : decode cc pc = .ok (.areturn, 1)) (h : R (some (rr E a)) S I P) : pmZ E C pc lv ([rr E a]) S I P mc0 ms0 := by
  intro H locs ls hH hS hl hn9
  obtain ⟨q1, q2, q3⟩ := hq
  rw [q2]
  exact W.aret (v := rr E a) G.1 G.2.1 q1 (Or.inl ⟨_, rfl⟩) (Or.inr ⟨_, rfl⟩) (fun t ht hW => ⟨⟨some (rr E a), S, I, P, rfl, h, by rw [ht]; exact hH, by omega⟩, hS.F ht⟩) hS.2.2 hdg G.2.2.2.2.2.2.2.2.2.1
end ROWS
