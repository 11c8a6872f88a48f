section MORE
variable {E : pmE} {C : pmC} {own : String} {cc : ByteArray} {nL d mc0 ms0 : Nat} {pc : Nat} {lv : List (Option Value)} {st : List Value} {S : pmS} {I : pmI} {P : pmP} {ca sl : Nat}
/-- a call that makes no cell -/
theorem z_V (G : pm_G E C own cc nL (d + 1) mc0 ms0) {idx n ci k : Nat} {y : MethodName} (L : pm_lnV own idx y n ci) (hdg : decode cc pc = .ok (.invokevirtual idx, 3)) {rest st0 : List Value} (As : List Value) (hst : st0 = As.reverse ++ rr E k :: rest) (hn : As.length = n) (hnL : lv.length = nL) (hW : (rest.map fun v => v.category).sum ≤ 8) (hf : ca ≤ mc0 ∧ sl ≤ ms0)
    (ho : OB S k ci) (h : pmX E d 0 0 y (rr E k :: As) S I P (fun v S' I' P' => pmZ E C (pc + 3) lv (v.toList ++ rest) S' I' P' ca sl)) : pmZ E C pc lv st0 S I P ca sl := z_callV G L hdg hst hn hnL hW hf ho.1 ho.2 h
theorem z_S (G : pm_G E C own cc nL (d + 1) mc0 ms0) {idx n : Nat} {y : MethodName} (L : pm_lnS own idx y n) (hdg : decode cc pc = .ok (.invokestatic idx, 3)) {rest st0 : List Value} (As : List Value) (hst : st0 = As.reverse ++ rest) (hn : As.length = n) (hnL : lv.length = nL) (hW : (rest.map fun v => v.category).sum ≤ 8) (hf : ca ≤ mc0 ∧ sl ≤ ms0)
    (h : pmX E d 0 0 y As S I P (fun v S' I' P' => pmZ E C (pc + 3) lv (v.toList ++ rest) S' I' P' ca sl)) : pmZ E C pc lv st0 S I P ca sl := z_callS G L hdg hst hn hnL hW hf h
theorem z_top {x y : Int32} (h : x = y) (k : pmZ E C pc lv (.int y :: st) S I P ca sl) : pmZ E C pc lv (.int x :: st) S I P ca sl := by subst h; exact k
theorem z_I {I' : pmI} (h : I = I') (k : pmZ E C pc lv st S I' P ca sl) : pmZ E C pc lv st S I P ca sl := by subst h; exact k
end MORE
