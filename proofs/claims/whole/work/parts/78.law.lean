/-! the law: its calls one by one, its loop -/
theorem pmX.mono {E : pmE} {d mc ms : Nat} {y : MethodName} {as : List Value} {S : pmS} {I : pmI} {P : pmP} {R R' : Option Value → pmS → pmI → pmP → Prop} (h : pmX E d mc ms y as S I P R) (hR : ∀ v S I P, R v S I P → R' v S I P) : pmX E d mc ms y as S I P R' := by
  obtain ⟨b, maxL, ret, h1, h2, h3, hM⟩ := h
  refine ⟨b, maxL, ret, h1, h2, h3, MetFree.mono hM (fun _ _ z => z) (fun _ _ _ _ _ z => z) (fun a s o t _ z => ?_)⟩
  obtain ⟨⟨⟨v, S', I', P', e1, e2, e3, e4⟩, e5⟩, e6⟩ := z
  exact ⟨⟨⟨v, S', I', P', e1, hR _ _ _ _ e2, e3, e4⟩, e5⟩, e6⟩
section SCRIPT
variable {E : pmE} {C : pmC} {own : String} {cc : ByteArray} {nL d mc0 ms0 : Nat} {pc : Nat} {lv : List (Option Value)} {st : List Value} {S : pmS} {I : pmI} {P : pmP} {ca sl : Nat}
theorem z_sld (G : pm_G E C own cc nL d mc0 ms0) {b L : Nat} {xs : Nat → Int32} (hX : va_X b L xs C.s C.s.heap) (hbl : b < C.s.heap.size) (hE : E.2.1 = C.s.heap.size) {i : Int32} (j : Nat) (hdg : decode cc pc = .ok (.iaload, 1)) (hi : i.toInt = (j : Int)) (hj : j < L) (k : pmZ E C (pc + 1) lv (.int (xs j) :: st) S I P ca sl) : pmZ E C pc lv (.int i :: .ref b :: st) S I P ca sl := by
  intro H locs ls hH hS hl hn9
  obtain ⟨h1, h2⟩ := vp_in_t hi hj
  have hbA : ¬ pm_A E b := by show ¬ E.2.1 ≤ b; rw [hE]; exact Nat.not_le.mpr hbl
  refine va_sld (A := pm_A E) G.1 G.2.1 hX hbl hbA hS h1 hdg ?_
  rw [h2]
  exact k H locs ls hH hS hl hn9
theorem z_slen (G : pm_G E C own cc nL d mc0 ms0) {b L : Nat} {xs : Nat → Int32} (hX : va_X b L xs C.s C.s.heap) (hbl : b < C.s.heap.size) (hE : E.2.1 = C.s.heap.size) (hdg : decode cc pc = .ok (.arraylength, 1)) (k : pmZ E C (pc + 1) lv (.int (iN L) :: st) S I P ca sl) : pmZ E C pc lv (.ref b :: st) S I P ca sl := by
  intro H locs ls hH hS hl hn9
  have hbA : ¬ pm_A E b := by show ¬ E.2.1 ≤ b; rw [hE]; exact Nat.not_le.mpr hbl
  exact va_slen (A := pm_A E) G.1 G.2.1 hX hbl hbA hS hdg (k H locs ls hH hS hl hn9)
end SCRIPT
set_option maxHeartbeats 1000000 in
set_option maxRecDepth 20000 in
theorem law_c0 {E : pmE} {C : pmC} (G : pm_G E C RL code 4 2001 600000 7302250) {b L : Nat} {xs : Nat → Int32} (hX : va_X b L xs C.s C.s.heap) (hbl : b < C.s.heap.size) (hE : E.2.1 = C.s.heap.size) {i : Nat} {u : Int32} (hu : u.toInt = (i : Int)) (hi : i + 6 ≤ L) (hL : L ≤ 3072) {S : pmS} {I : pmI} {P : pmP} (h : LW S I P) (next : ∀ S I P, LW S I P → pmZ E C 1173 [some (.ref b), some (rr E 0), some (rr E 660), some (.int u)] [] S I P 676 8217) : pmZ E C 188 [some (.ref b), some (rr E 0), some (rr E 660), some (.int u)] [] S I P 676 8217 := by
  refine z_aload_n G dL_law_188 rfl ?_
  refine z_aload_x G dL_law_189 rfl ?_
  refine z_iload_n G dL_law_190 rfl ?_
  refine z_iconst G (v := 1) dL_law_191 (by decide) ?_
  refine z_iadd G dL_law_192 ?_
  refine z_sld G hX hbl hE (i + 1) dL_law_193 (by simp (disch := omega) only [iN_lit, iN_add, iN_sub, iN_mul, iN_an, iN_of hu]; exact iN_ti2 (by omega) (by omega)) (by omega) ?_
  refine z_aload_x G dL_law_194 rfl ?_
  refine z_iload_n G dL_law_195 rfl ?_
  refine z_iconst G (v := 2) dL_law_196 (by decide) ?_
  refine z_iadd G dL_law_197 ?_
  refine z_sld G hX hbl hE (i + 2) dL_law_198 (by simp (disch := omega) only [iN_lit, iN_add, iN_sub, iN_mul, iN_an, iN_of hu]; exact iN_ti2 (by omega) (by omega)) (by omega) ?_
  refine z_aload_x G dL_law_199 rfl ?_
  refine z_iload_n G dL_law_200 rfl ?_
  refine z_iconst G (v := 3) dL_law_201 (by decide) ?_
  refine z_iadd G dL_law_202 ?_
  refine z_sld G hX hbl hE (i + 3) dL_law_203 (by simp (disch := omega) only [iN_lit, iN_add, iN_sub, iN_mul, iN_an, iN_of hu]; exact iN_ti2 (by omega) (by omega)) (by omega) ?_
  refine z_V G lk_L_13 dL_law_204 [_, _, _] rfl rfl rfl (Nat.le_of_ble_eq_true rfl) ⟨(Nat.le_of_ble_eq_true rfl), (Nat.le_of_ble_eq_true rfl)⟩ h.2.1.1.1 (pmX.mono (st_row h _ _ _) (fun v1 S1 I1 P1 z => ?_))
  obtain ⟨x, rfl, ho, hm⟩ := z
  refine z_aload_n G dL_law_207 rfl ?_
  refine z_aload_x G dL_law_208 rfl ?_
  refine z_iload_n G dL_law_209 rfl ?_
  refine z_iconst G (v := 1) dL_law_210 (by decide) ?_
  refine z_iadd G dL_law_211 ?_
  refine z_sld G hX hbl hE (i + 1) dL_law_212 (by simp (disch := omega) only [iN_lit, iN_add, iN_sub, iN_mul, iN_an, iN_of hu]; exact iN_ti2 (by omega) (by omega)) (by omega) ?_
  refine z_aload_x G dL_law_213 rfl ?_
  refine z_iload_n G dL_law_214 rfl ?_
  refine z_iconst G (v := 2) dL_law_215 (by decide) ?_
  refine z_iadd G dL_law_216 ?_
  refine z_sld G hX hbl hE (i + 2) dL_law_217 (by simp (disch := omega) only [iN_lit, iN_add, iN_sub, iN_mul, iN_an, iN_of hu]; exact iN_ti2 (by omega) (by omega)) (by omega) ?_
  refine z_aload_x G dL_law_218 rfl ?_
  refine z_iload_n G dL_law_219 rfl ?_
  refine z_iconst G (v := 3) dL_law_220 (by decide) ?_
  refine z_iadd G dL_law_221 ?_
  refine z_sld G hX hbl hE (i + 3) dL_law_222 (by simp (disch := omega) only [iN_lit, iN_add, iN_sub, iN_mul, iN_an, iN_of hu]; exact iN_ti2 (by omega) (by omega)) (by omega) ?_
  refine z_V G lk_L_17 dL_law_223 [_, _, _] rfl rfl rfl (Nat.le_of_ble_eq_true rfl) ⟨(Nat.le_of_ble_eq_true rfl), (Nat.le_of_ble_eq_true rfl)⟩ ho (pmX.mono hm (fun v2 S2 I2 P2 z => ?_))
  obtain ⟨rfl, h2⟩ := z
  exact z_icmp_eq G 1173 dL_law_226 (by decide) (fun _ => next S2 I2 P2 h2) (fun c => absurd rfl c)
set_option maxHeartbeats 1000000 in
set_option maxRecDepth 20000 in
theorem law_c1 {E : pmE} {C : pmC} (G : pm_G E C RL code 4 2001 600000 7302250) {b L : Nat} {xs : Nat → Int32} (hX : va_X b L xs C.s C.s.heap) (hbl : b < C.s.heap.size) (hE : E.2.1 = C.s.heap.size) {i : Nat} {u : Int32} (hu : u.toInt = (i : Int)) (hi : i + 6 ≤ L) (hL : L ≤ 3072) {S : pmS} {I : pmI} {P : pmP} (h : LW S I P) (next : ∀ S I P, LW S I P → pmZ E C 1173 [some (.ref b), some (rr E 0), some (rr E 660), some (.int u)] [] S I P 676 8217) : pmZ E C 231 [some (.ref b), some (rr E 0), some (rr E 660), some (.int u)] [] S I P 676 8217 := by
  refine z_aload_n G dL_law_231 rfl ?_
  refine z_aload_x G dL_law_232 rfl ?_
  refine z_iload_n G dL_law_233 rfl ?_
  refine z_iconst G (v := 1) dL_law_234 (by decide) ?_
  refine z_iadd G dL_law_235 ?_
  refine z_sld G hX hbl hE (i + 1) dL_law_236 (by simp (disch := omega) only [iN_lit, iN_add, iN_sub, iN_mul, iN_an, iN_of hu]; exact iN_ti2 (by omega) (by omega)) (by omega) ?_
  refine z_aload_x G dL_law_237 rfl ?_
  refine z_iload_n G dL_law_238 rfl ?_
  refine z_iconst G (v := 2) dL_law_239 (by decide) ?_
  refine z_iadd G dL_law_240 ?_
  refine z_sld G hX hbl hE (i + 2) dL_law_241 (by simp (disch := omega) only [iN_lit, iN_add, iN_sub, iN_mul, iN_an, iN_of hu]; exact iN_ti2 (by omega) (by omega)) (by omega) ?_
  refine z_aload_x G dL_law_242 rfl ?_
  refine z_iload_n G dL_law_243 rfl ?_
  refine z_iconst G (v := 3) dL_law_244 (by decide) ?_
  refine z_iadd G dL_law_245 ?_
  refine z_sld G hX hbl hE (i + 3) dL_law_246 (by simp (disch := omega) only [iN_lit, iN_add, iN_sub, iN_mul, iN_an, iN_of hu]; exact iN_ti2 (by omega) (by omega)) (by omega) ?_
  refine z_V G lk_L_18 dL_law_247 [_, _, _] rfl rfl rfl (Nat.le_of_ble_eq_true rfl) ⟨(Nat.le_of_ble_eq_true rfl), (Nat.le_of_ble_eq_true rfl)⟩ h.2.1.1.1 (pmX.mono (st_set h _ _ _) (fun v1 S1 I1 P1 z => ?_))
  obtain ⟨x, rfl, ho, hm⟩ := z
  refine z_aload_n G dL_law_250 rfl ?_
  refine z_aload_x G dL_law_251 rfl ?_
  refine z_iload_n G dL_law_252 rfl ?_
  refine z_iconst G (v := 1) dL_law_253 (by decide) ?_
  refine z_iadd G dL_law_254 ?_
  refine z_sld G hX hbl hE (i + 1) dL_law_255 (by simp (disch := omega) only [iN_lit, iN_add, iN_sub, iN_mul, iN_an, iN_of hu]; exact iN_ti2 (by omega) (by omega)) (by omega) ?_
  refine z_aload_x G dL_law_256 rfl ?_
  refine z_iload_n G dL_law_257 rfl ?_
  refine z_iconst G (v := 2) dL_law_258 (by decide) ?_
  refine z_iadd G dL_law_259 ?_
  refine z_sld G hX hbl hE (i + 2) dL_law_260 (by simp (disch := omega) only [iN_lit, iN_add, iN_sub, iN_mul, iN_an, iN_of hu]; exact iN_ti2 (by omega) (by omega)) (by omega) ?_
  refine z_aload_x G dL_law_261 rfl ?_
  refine z_iload_n G dL_law_262 rfl ?_
  refine z_iconst G (v := 3) dL_law_263 (by decide) ?_
  refine z_iadd G dL_law_264 ?_
  refine z_sld G hX hbl hE (i + 3) dL_law_265 (by simp (disch := omega) only [iN_lit, iN_add, iN_sub, iN_mul, iN_an, iN_of hu]; exact iN_ti2 (by omega) (by omega)) (by omega) ?_
  refine z_V G lk_L_21 dL_law_266 [_, _, _] rfl rfl rfl (Nat.le_of_ble_eq_true rfl) ⟨(Nat.le_of_ble_eq_true rfl), (Nat.le_of_ble_eq_true rfl)⟩ ho (pmX.mono hm (fun v2 S2 I2 P2 z => ?_))
  obtain ⟨rfl, h2⟩ := z
  exact z_icmp_eq G 1173 dL_law_269 (by decide) (fun _ => next S2 I2 P2 h2) (fun c => absurd rfl c)
set_option maxHeartbeats 1000000 in
set_option maxRecDepth 20000 in
theorem law_c2 {E : pmE} {C : pmC} (G : pm_G E C RL code 4 2001 600000 7302250) {b L : Nat} {xs : Nat → Int32} (hX : va_X b L xs C.s C.s.heap) (hbl : b < C.s.heap.size) (hE : E.2.1 = C.s.heap.size) {i : Nat} {u : Int32} (hu : u.toInt = (i : Int)) (hi : i + 6 ≤ L) (hL : L ≤ 3072) {S : pmS} {I : pmI} {P : pmP} (h : LW S I P) (next : ∀ S I P, LW S I P → pmZ E C 1173 [some (.ref b), some (rr E 0), some (rr E 660), some (.int u)] [] S I P 676 8217) : pmZ E C 274 [some (.ref b), some (rr E 0), some (rr E 660), some (.int u)] [] S I P 676 8217 := by
  refine z_aload_n G dL_law_274 rfl ?_
  refine z_aload_x G dL_law_275 rfl ?_
  refine z_iload_n G dL_law_276 rfl ?_
  refine z_iconst G (v := 1) dL_law_277 (by decide) ?_
  refine z_iadd G dL_law_278 ?_
  refine z_sld G hX hbl hE (i + 1) dL_law_279 (by simp (disch := omega) only [iN_lit, iN_add, iN_sub, iN_mul, iN_an, iN_of hu]; exact iN_ti2 (by omega) (by omega)) (by omega) ?_
  refine z_aload_x G dL_law_280 rfl ?_
  refine z_iload_n G dL_law_281 rfl ?_
  refine z_iconst G (v := 2) dL_law_282 (by decide) ?_
  refine z_iadd G dL_law_283 ?_
  refine z_sld G hX hbl hE (i + 2) dL_law_284 (by simp (disch := omega) only [iN_lit, iN_add, iN_sub, iN_mul, iN_an, iN_of hu]; exact iN_ti2 (by omega) (by omega)) (by omega) ?_
  refine z_aload_x G dL_law_285 rfl ?_
  refine z_iload_n G dL_law_286 rfl ?_
  refine z_iconst G (v := 3) dL_law_287 (by decide) ?_
  refine z_iadd G dL_law_288 ?_
  refine z_sld G hX hbl hE (i + 3) dL_law_289 (by simp (disch := omega) only [iN_lit, iN_add, iN_sub, iN_mul, iN_an, iN_of hu]; exact iN_ti2 (by omega) (by omega)) (by omega) ?_
  refine z_aload_x G dL_law_290 rfl ?_
  refine z_iload_n G dL_law_291 rfl ?_
  refine z_iconst G (v := 4) dL_law_292 (by decide) ?_
  refine z_iadd G dL_law_293 ?_
  refine z_sld G hX hbl hE (i + 4) dL_law_294 (by simp (disch := omega) only [iN_lit, iN_add, iN_sub, iN_mul, iN_an, iN_of hu]; exact iN_ti2 (by omega) (by omega)) (by omega) ?_
  refine z_aload_x G dL_law_295 rfl ?_
  refine z_iload_n G dL_law_296 rfl ?_
  refine z_iconst G (v := 5) dL_law_297 (by decide) ?_
  refine z_iadd G dL_law_298 ?_
  refine z_sld G hX hbl hE (i + 5) dL_law_299 (by simp (disch := omega) only [iN_lit, iN_add, iN_sub, iN_mul, iN_an, iN_of hu]; exact iN_ti2 (by omega) (by omega)) (by omega) ?_
  refine z_V G lk_L_22 dL_law_300 [_, _, _, _, _] rfl rfl rfl (Nat.le_of_ble_eq_true rfl) ⟨(Nat.le_of_ble_eq_true rfl), (Nat.le_of_ble_eq_true rfl)⟩ h.2.1.1.1 (pmX.mono (st_copy h _ _ _ _ _) (fun v1 S1 I1 P1 z => ?_))
  obtain ⟨x, rfl, ho, hm⟩ := z
  refine z_aload_n G dL_law_303 rfl ?_
  refine z_aload_x G dL_law_304 rfl ?_
  refine z_iload_n G dL_law_305 rfl ?_
  refine z_iconst G (v := 1) dL_law_306 (by decide) ?_
  refine z_iadd G dL_law_307 ?_
  refine z_sld G hX hbl hE (i + 1) dL_law_308 (by simp (disch := omega) only [iN_lit, iN_add, iN_sub, iN_mul, iN_an, iN_of hu]; exact iN_ti2 (by omega) (by omega)) (by omega) ?_
  refine z_aload_x G dL_law_309 rfl ?_
  refine z_iload_n G dL_law_310 rfl ?_
  refine z_iconst G (v := 2) dL_law_311 (by decide) ?_
  refine z_iadd G dL_law_312 ?_
  refine z_sld G hX hbl hE (i + 2) dL_law_313 (by simp (disch := omega) only [iN_lit, iN_add, iN_sub, iN_mul, iN_an, iN_of hu]; exact iN_ti2 (by omega) (by omega)) (by omega) ?_
  refine z_aload_x G dL_law_314 rfl ?_
  refine z_iload_n G dL_law_315 rfl ?_
  refine z_iconst G (v := 3) dL_law_316 (by decide) ?_
  refine z_iadd G dL_law_317 ?_
  refine z_sld G hX hbl hE (i + 3) dL_law_318 (by simp (disch := omega) only [iN_lit, iN_add, iN_sub, iN_mul, iN_an, iN_of hu]; exact iN_ti2 (by omega) (by omega)) (by omega) ?_
  refine z_aload_x G dL_law_319 rfl ?_
  refine z_iload_n G dL_law_320 rfl ?_
  refine z_iconst G (v := 4) dL_law_321 (by decide) ?_
  refine z_iadd G dL_law_322 ?_
  refine z_sld G hX hbl hE (i + 4) dL_law_323 (by simp (disch := omega) only [iN_lit, iN_add, iN_sub, iN_mul, iN_an, iN_of hu]; exact iN_ti2 (by omega) (by omega)) (by omega) ?_
  refine z_aload_x G dL_law_324 rfl ?_
  refine z_iload_n G dL_law_325 rfl ?_
  refine z_iconst G (v := 5) dL_law_326 (by decide) ?_
  refine z_iadd G dL_law_327 ?_
  refine z_sld G hX hbl hE (i + 5) dL_law_328 (by simp (disch := omega) only [iN_lit, iN_add, iN_sub, iN_mul, iN_an, iN_of hu]; exact iN_ti2 (by omega) (by omega)) (by omega) ?_
  refine z_V G lk_L_26 dL_law_329 [_, _, _, _, _] rfl rfl rfl (Nat.le_of_ble_eq_true rfl) ⟨(Nat.le_of_ble_eq_true rfl), (Nat.le_of_ble_eq_true rfl)⟩ ho (pmX.mono hm (fun v2 S2 I2 P2 z => ?_))
  obtain ⟨rfl, h2⟩ := z
  exact z_icmp_eq G 1173 dL_law_332 (by decide) (fun _ => next S2 I2 P2 h2) (fun c => absurd rfl c)
set_option maxHeartbeats 1000000 in
set_option maxRecDepth 20000 in
theorem law_c3 {E : pmE} {C : pmC} (G : pm_G E C RL code 4 2001 600000 7302250) {b L : Nat} {xs : Nat → Int32} (hX : va_X b L xs C.s C.s.heap) (hbl : b < C.s.heap.size) (hE : E.2.1 = C.s.heap.size) {i : Nat} {u : Int32} (hu : u.toInt = (i : Int)) (hi : i + 6 ≤ L) (hL : L ≤ 3072) {S : pmS} {I : pmI} {P : pmP} (h : LW S I P) (next : ∀ S I P, LW S I P → pmZ E C 1173 [some (.ref b), some (rr E 0), some (rr E 660), some (.int u)] [] S I P 676 8217) : pmZ E C 337 [some (.ref b), some (rr E 0), some (rr E 660), some (.int u)] [] S I P 676 8217 := by
  refine z_aload_n G dL_law_337 rfl ?_
  refine z_aload_x G dL_law_338 rfl ?_
  refine z_iload_n G dL_law_339 rfl ?_
  refine z_iconst G (v := 1) dL_law_340 (by decide) ?_
  refine z_iadd G dL_law_341 ?_
  refine z_sld G hX hbl hE (i + 1) dL_law_342 (by simp (disch := omega) only [iN_lit, iN_add, iN_sub, iN_mul, iN_an, iN_of hu]; exact iN_ti2 (by omega) (by omega)) (by omega) ?_
  refine z_V G lk_L_27 dL_law_343 [_] rfl rfl rfl (Nat.le_of_ble_eq_true rfl) ⟨(Nat.le_of_ble_eq_true rfl), (Nat.le_of_ble_eq_true rfl)⟩ h.2.1.1.1 (pmX.mono (st_drop h _) (fun v1 S1 I1 P1 z => ?_))
  obtain ⟨x, rfl, ho, hm⟩ := z
  refine z_aload_n G dL_law_346 rfl ?_
  refine z_aload_x G dL_law_347 rfl ?_
  refine z_iload_n G dL_law_348 rfl ?_
  refine z_iconst G (v := 1) dL_law_349 (by decide) ?_
  refine z_iadd G dL_law_350 ?_
  refine z_sld G hX hbl hE (i + 1) dL_law_351 (by simp (disch := omega) only [iN_lit, iN_add, iN_sub, iN_mul, iN_an, iN_of hu]; exact iN_ti2 (by omega) (by omega)) (by omega) ?_
  refine z_V G lk_L_31 dL_law_352 [_] rfl rfl rfl (Nat.le_of_ble_eq_true rfl) ⟨(Nat.le_of_ble_eq_true rfl), (Nat.le_of_ble_eq_true rfl)⟩ ho (pmX.mono hm (fun v2 S2 I2 P2 z => ?_))
  obtain ⟨rfl, h2⟩ := z
  exact z_icmp_eq G 1173 dL_law_355 (by decide) (fun _ => next S2 I2 P2 h2) (fun c => absurd rfl c)
set_option maxHeartbeats 1000000 in
set_option maxRecDepth 20000 in
theorem law_c4 {E : pmE} {C : pmC} (G : pm_G E C RL code 4 2001 600000 7302250) {b L : Nat} {xs : Nat → Int32} (hX : va_X b L xs C.s C.s.heap) (hbl : b < C.s.heap.size) (hE : E.2.1 = C.s.heap.size) {i : Nat} {u : Int32} (hu : u.toInt = (i : Int)) (hi : i + 6 ≤ L) (hL : L ≤ 3072) {S : pmS} {I : pmI} {P : pmP} (h : LW S I P) (next : ∀ S I P, LW S I P → pmZ E C 1173 [some (.ref b), some (rr E 0), some (rr E 660), some (.int u)] [] S I P 676 8217) : pmZ E C 360 [some (.ref b), some (rr E 0), some (rr E 660), some (.int u)] [] S I P 676 8217 := by
  refine z_aload_n G dL_law_360 rfl ?_
  refine z_aload_x G dL_law_361 rfl ?_
  refine z_iload_n G dL_law_362 rfl ?_
  refine z_iconst G (v := 1) dL_law_363 (by decide) ?_
  refine z_iadd G dL_law_364 ?_
  refine z_sld G hX hbl hE (i + 1) dL_law_365 (by simp (disch := omega) only [iN_lit, iN_add, iN_sub, iN_mul, iN_an, iN_of hu]; exact iN_ti2 (by omega) (by omega)) (by omega) ?_
  refine z_V G lk_L_32 dL_law_366 [_] rfl rfl rfl (Nat.le_of_ble_eq_true rfl) ⟨(Nat.le_of_ble_eq_true rfl), (Nat.le_of_ble_eq_true rfl)⟩ h.2.1.1.1 (pmX.mono (st_feed h _) (fun v1 S1 I1 P1 z => ?_))
  obtain ⟨x, rfl, ho, hm⟩ := z
  refine z_aload_n G dL_law_369 rfl ?_
  refine z_aload_x G dL_law_370 rfl ?_
  refine z_iload_n G dL_law_371 rfl ?_
  refine z_iconst G (v := 1) dL_law_372 (by decide) ?_
  refine z_iadd G dL_law_373 ?_
  refine z_sld G hX hbl hE (i + 1) dL_law_374 (by simp (disch := omega) only [iN_lit, iN_add, iN_sub, iN_mul, iN_an, iN_of hu]; exact iN_ti2 (by omega) (by omega)) (by omega) ?_
  refine z_V G lk_L_35 dL_law_375 [_] rfl rfl rfl (Nat.le_of_ble_eq_true rfl) ⟨(Nat.le_of_ble_eq_true rfl), (Nat.le_of_ble_eq_true rfl)⟩ ho (pmX.mono hm (fun v2 S2 I2 P2 z => ?_))
  obtain ⟨rfl, h2⟩ := z
  exact z_icmp_eq G 1173 dL_law_378 (by decide) (fun _ => next S2 I2 P2 h2) (fun c => absurd rfl c)
set_option maxHeartbeats 1000000 in
set_option maxRecDepth 20000 in
theorem law_c5 {E : pmE} {C : pmC} (G : pm_G E C RL code 4 2001 600000 7302250) {b L : Nat} {xs : Nat → Int32} (hX : va_X b L xs C.s C.s.heap) (hbl : b < C.s.heap.size) (hE : E.2.1 = C.s.heap.size) {i : Nat} {u : Int32} (hu : u.toInt = (i : Int)) (hi : i + 6 ≤ L) (hL : L ≤ 3072) {S : pmS} {I : pmI} {P : pmP} (h : LW S I P) (next : ∀ S I P, LW S I P → pmZ E C 1173 [some (.ref b), some (rr E 0), some (rr E 660), some (.int u)] [] S I P 676 8217) : pmZ E C 383 [some (.ref b), some (rr E 0), some (rr E 660), some (.int u)] [] S I P 676 8217 := by
  refine z_aload_n G dL_law_383 rfl ?_
  refine z_V G lk_L_36 dL_law_384 [] rfl rfl rfl (Nat.le_of_ble_eq_true rfl) ⟨(Nat.le_of_ble_eq_true rfl), (Nat.le_of_ble_eq_true rfl)⟩ h.2.1.1.1 (pmX.mono (st_web h) (fun v1 S1 I1 P1 z => ?_))
  obtain ⟨x, rfl, ho, hm⟩ := z
  refine z_aload_n G dL_law_387 rfl ?_
  refine z_V G lk_L_40 dL_law_388 [] rfl rfl rfl (Nat.le_of_ble_eq_true rfl) ⟨(Nat.le_of_ble_eq_true rfl), (Nat.le_of_ble_eq_true rfl)⟩ ho (pmX.mono hm (fun v2 S2 I2 P2 z => ?_))
  obtain ⟨rfl, h2⟩ := z
  exact z_icmp_eq G 1173 dL_law_391 (by decide) (fun _ => next S2 I2 P2 h2) (fun c => absurd rfl c)
set_option maxHeartbeats 1000000 in
set_option maxRecDepth 20000 in
theorem law_c6 {E : pmE} {C : pmC} (G : pm_G E C RL code 4 2001 600000 7302250) {b L : Nat} {xs : Nat → Int32} (hX : va_X b L xs C.s C.s.heap) (hbl : b < C.s.heap.size) (hE : E.2.1 = C.s.heap.size) {i : Nat} {u : Int32} (hu : u.toInt = (i : Int)) (hi : i + 6 ≤ L) (hL : L ≤ 3072) {S : pmS} {I : pmI} {P : pmP} (h : LW S I P) (next : ∀ S I P, LW S I P → pmZ E C 1173 [some (.ref b), some (rr E 0), some (rr E 660), some (.int u)] [] S I P 676 8217) : pmZ E C 396 [some (.ref b), some (rr E 0), some (rr E 660), some (.int u)] [] S I P 676 8217 := by
  refine z_aload_n G dL_law_396 rfl ?_
  refine z_V G lk_L_41 dL_law_397 [] rfl rfl rfl (Nat.le_of_ble_eq_true rfl) ⟨(Nat.le_of_ble_eq_true rfl), (Nat.le_of_ble_eq_true rfl)⟩ h.2.1.1.1 (pmX.mono (st_fault h) (fun v1 S1 I1 P1 z => ?_))
  obtain ⟨x, rfl, ho, hm⟩ := z
  refine z_aload_n G dL_law_400 rfl ?_
  refine z_V G lk_L_44 dL_law_401 [] rfl rfl rfl (Nat.le_of_ble_eq_true rfl) ⟨(Nat.le_of_ble_eq_true rfl), (Nat.le_of_ble_eq_true rfl)⟩ ho (pmX.mono hm (fun v2 S2 I2 P2 z => ?_))
  obtain ⟨rfl, h2⟩ := z
  exact z_icmp_eq G 1173 dL_law_404 (by decide) (fun _ => next S2 I2 P2 h2) (fun c => absurd rfl c)
set_option maxHeartbeats 1000000 in
set_option maxRecDepth 20000 in
theorem law_c7 {E : pmE} {C : pmC} (G : pm_G E C RL code 4 2001 600000 7302250) {b L : Nat} {xs : Nat → Int32} (hX : va_X b L xs C.s C.s.heap) (hbl : b < C.s.heap.size) (hE : E.2.1 = C.s.heap.size) {i : Nat} {u : Int32} (hu : u.toInt = (i : Int)) (hi : i + 6 ≤ L) (hL : L ≤ 3072) {S : pmS} {I : pmI} {P : pmP} (h : LW S I P) (next : ∀ S I P, LW S I P → pmZ E C 1173 [some (.ref b), some (rr E 0), some (rr E 660), some (.int u)] [] S I P 676 8217) : pmZ E C 409 [some (.ref b), some (rr E 0), some (rr E 660), some (.int u)] [] S I P 676 8217 := by
  refine z_aload_n G dL_law_409 rfl ?_
  refine z_aload_x G dL_law_410 rfl ?_
  refine z_iload_n G dL_law_411 rfl ?_
  refine z_iconst G (v := 1) dL_law_412 (by decide) ?_
  refine z_iadd G dL_law_413 ?_
  refine z_sld G hX hbl hE (i + 1) dL_law_414 (by simp (disch := omega) only [iN_lit, iN_add, iN_sub, iN_mul, iN_an, iN_of hu]; exact iN_ti2 (by omega) (by omega)) (by omega) ?_
  refine z_V G lk_L_45 dL_law_415 [_] rfl rfl rfl (Nat.le_of_ble_eq_true rfl) ⟨(Nat.le_of_ble_eq_true rfl), (Nat.le_of_ble_eq_true rfl)⟩ h.2.1.1.1 (pmX.mono (st_follow h _) (fun v1 S1 I1 P1 z => ?_))
  obtain ⟨x, rfl, ho, hm⟩ := z
  refine z_aload_n G dL_law_418 rfl ?_
  refine z_aload_x G dL_law_419 rfl ?_
  refine z_iload_n G dL_law_420 rfl ?_
  refine z_iconst G (v := 1) dL_law_421 (by decide) ?_
  refine z_iadd G dL_law_422 ?_
  refine z_sld G hX hbl hE (i + 1) dL_law_423 (by simp (disch := omega) only [iN_lit, iN_add, iN_sub, iN_mul, iN_an, iN_of hu]; exact iN_ti2 (by omega) (by omega)) (by omega) ?_
  refine z_V G lk_L_48 dL_law_424 [_] rfl rfl rfl (Nat.le_of_ble_eq_true rfl) ⟨(Nat.le_of_ble_eq_true rfl), (Nat.le_of_ble_eq_true rfl)⟩ ho (pmX.mono hm (fun v2 S2 I2 P2 z => ?_))
  obtain ⟨rfl, h2⟩ := z
  exact z_icmp_eq G 1173 dL_law_427 (by decide) (fun _ => next S2 I2 P2 h2) (fun c => absurd rfl c)
set_option maxHeartbeats 1000000 in
set_option maxRecDepth 20000 in
theorem law_c8 {E : pmE} {C : pmC} (G : pm_G E C RL code 4 2001 600000 7302250) {b L : Nat} {xs : Nat → Int32} (hX : va_X b L xs C.s C.s.heap) (hbl : b < C.s.heap.size) (hE : E.2.1 = C.s.heap.size) {i : Nat} {u : Int32} (hu : u.toInt = (i : Int)) (hi : i + 6 ≤ L) (hL : L ≤ 3072) {S : pmS} {I : pmI} {P : pmP} (h : LW S I P) (next : ∀ S I P, LW S I P → pmZ E C 1173 [some (.ref b), some (rr E 0), some (rr E 660), some (.int u)] [] S I P 676 8217) : pmZ E C 432 [some (.ref b), some (rr E 0), some (rr E 660), some (.int u)] [] S I P 676 8217 := by
  refine z_aload_n G dL_law_432 rfl ?_
  refine z_V G lk_L_49 dL_law_433 [] rfl rfl rfl (Nat.le_of_ble_eq_true rfl) ⟨(Nat.le_of_ble_eq_true rfl), (Nat.le_of_ble_eq_true rfl)⟩ h.2.1.1.1 (pmX.mono (st_back h) (fun v1 S1 I1 P1 z => ?_))
  obtain ⟨x, rfl, ho, hm⟩ := z
  refine z_aload_n G dL_law_436 rfl ?_
  refine z_V G lk_L_52 dL_law_437 [] rfl rfl rfl (Nat.le_of_ble_eq_true rfl) ⟨(Nat.le_of_ble_eq_true rfl), (Nat.le_of_ble_eq_true rfl)⟩ ho (pmX.mono hm (fun v2 S2 I2 P2 z => ?_))
  obtain ⟨rfl, h2⟩ := z
  exact z_icmp_eq G 1173 dL_law_440 (by decide) (fun _ => next S2 I2 P2 h2) (fun c => absurd rfl c)
set_option maxHeartbeats 1000000 in
set_option maxRecDepth 20000 in
theorem law_c9 {E : pmE} {C : pmC} (G : pm_G E C RL code 4 2001 600000 7302250) {b L : Nat} {xs : Nat → Int32} (hX : va_X b L xs C.s C.s.heap) (hbl : b < C.s.heap.size) (hE : E.2.1 = C.s.heap.size) {i : Nat} {u : Int32} (hu : u.toInt = (i : Int)) (hi : i + 6 ≤ L) (hL : L ≤ 3072) {S : pmS} {I : pmI} {P : pmP} (h : LW S I P) (next : ∀ S I P, LW S I P → pmZ E C 1173 [some (.ref b), some (rr E 0), some (rr E 660), some (.int u)] [] S I P 676 8217) : pmZ E C 445 [some (.ref b), some (rr E 0), some (rr E 660), some (.int u)] [] S I P 676 8217 := by
  refine z_aload_n G dL_law_445 rfl ?_
  refine z_V G lk_L_53 dL_law_446 [] rfl rfl rfl (Nat.le_of_ble_eq_true rfl) ⟨(Nat.le_of_ble_eq_true rfl), (Nat.le_of_ble_eq_true rfl)⟩ h.2.1.1.1 (pmX.mono (st_forward h) (fun v1 S1 I1 P1 z => ?_))
  obtain ⟨x, rfl, ho, hm⟩ := z
  refine z_aload_n G dL_law_449 rfl ?_
  refine z_V G lk_L_56 dL_law_450 [] rfl rfl rfl (Nat.le_of_ble_eq_true rfl) ⟨(Nat.le_of_ble_eq_true rfl), (Nat.le_of_ble_eq_true rfl)⟩ ho (pmX.mono hm (fun v2 S2 I2 P2 z => ?_))
  obtain ⟨rfl, h2⟩ := z
  exact z_icmp_eq G 1173 dL_law_453 (by decide) (fun _ => next S2 I2 P2 h2) (fun c => absurd rfl c)
set_option maxHeartbeats 1000000 in
set_option maxRecDepth 20000 in
theorem law_c10 {E : pmE} {C : pmC} (G : pm_G E C RL code 4 2001 600000 7302250) {b L : Nat} {xs : Nat → Int32} (hX : va_X b L xs C.s C.s.heap) (hbl : b < C.s.heap.size) (hE : E.2.1 = C.s.heap.size) {i : Nat} {u : Int32} (hu : u.toInt = (i : Int)) (hi : i + 6 ≤ L) (hL : L ≤ 3072) {S : pmS} {I : pmI} {P : pmP} (h : LW S I P) (next : ∀ S I P, LW S I P → pmZ E C 1173 [some (.ref b), some (rr E 0), some (rr E 660), some (.int u)] [] S I P 676 8217) : pmZ E C 458 [some (.ref b), some (rr E 0), some (rr E 660), some (.int u)] [] S I P 676 8217 := by
  refine z_aload_n G dL_law_458 rfl ?_
  refine z_aload_x G dL_law_459 rfl ?_
  refine z_iload_n G dL_law_460 rfl ?_
  refine z_iconst G (v := 1) dL_law_461 (by decide) ?_
  refine z_iadd G dL_law_462 ?_
  refine z_sld G hX hbl hE (i + 1) dL_law_463 (by simp (disch := omega) only [iN_lit, iN_add, iN_sub, iN_mul, iN_an, iN_of hu]; exact iN_ti2 (by omega) (by omega)) (by omega) ?_
  refine z_V G lk_L_57 dL_law_464 [_] rfl rfl rfl (Nat.le_of_ble_eq_true rfl) ⟨(Nat.le_of_ble_eq_true rfl), (Nat.le_of_ble_eq_true rfl)⟩ h.2.1.1.1 (pmX.mono (st_select h _) (fun v1 S1 I1 P1 z => ?_))
  obtain ⟨x, rfl, ho, hm⟩ := z
  refine z_aload_n G dL_law_467 rfl ?_
  refine z_aload_x G dL_law_468 rfl ?_
  refine z_iload_n G dL_law_469 rfl ?_
  refine z_iconst G (v := 1) dL_law_470 (by decide) ?_
  refine z_iadd G dL_law_471 ?_
  refine z_sld G hX hbl hE (i + 1) dL_law_472 (by simp (disch := omega) only [iN_lit, iN_add, iN_sub, iN_mul, iN_an, iN_of hu]; exact iN_ti2 (by omega) (by omega)) (by omega) ?_
  refine z_V G lk_L_60 dL_law_473 [_] rfl rfl rfl (Nat.le_of_ble_eq_true rfl) ⟨(Nat.le_of_ble_eq_true rfl), (Nat.le_of_ble_eq_true rfl)⟩ ho (pmX.mono hm (fun v2 S2 I2 P2 z => ?_))
  obtain ⟨rfl, h2⟩ := z
  exact z_icmp_eq G 1173 dL_law_476 (by decide) (fun _ => next S2 I2 P2 h2) (fun c => absurd rfl c)
set_option maxHeartbeats 1000000 in
set_option maxRecDepth 20000 in
theorem law_c11 {E : pmE} {C : pmC} (G : pm_G E C RL code 4 2001 600000 7302250) {b L : Nat} {xs : Nat → Int32} (hX : va_X b L xs C.s C.s.heap) (hbl : b < C.s.heap.size) (hE : E.2.1 = C.s.heap.size) {i : Nat} {u : Int32} (hu : u.toInt = (i : Int)) (hi : i + 6 ≤ L) (hL : L ≤ 3072) {S : pmS} {I : pmI} {P : pmP} (h : LW S I P) (next : ∀ S I P, LW S I P → pmZ E C 1173 [some (.ref b), some (rr E 0), some (rr E 660), some (.int u)] [] S I P 676 8217) : pmZ E C 481 [some (.ref b), some (rr E 0), some (rr E 660), some (.int u)] [] S I P 676 8217 := by
  refine z_aload_n G dL_law_481 rfl ?_
  refine z_aload_x G dL_law_482 rfl ?_
  refine z_iload_n G dL_law_483 rfl ?_
  refine z_iconst G (v := 1) dL_law_484 (by decide) ?_
  refine z_iadd G dL_law_485 ?_
  refine z_sld G hX hbl hE (i + 1) dL_law_486 (by simp (disch := omega) only [iN_lit, iN_add, iN_sub, iN_mul, iN_an, iN_of hu]; exact iN_ti2 (by omega) (by omega)) (by omega) ?_
  refine z_V G lk_L_61 dL_law_487 [_] rfl rfl rfl (Nat.le_of_ble_eq_true rfl) ⟨(Nat.le_of_ble_eq_true rfl), (Nat.le_of_ble_eq_true rfl)⟩ h.2.1.1.1 (pmX.mono (st_open h _) (fun v1 S1 I1 P1 z => ?_))
  obtain ⟨x, rfl, ho, hm⟩ := z
  refine z_aload_n G dL_law_490 rfl ?_
  refine z_aload_x G dL_law_491 rfl ?_
  refine z_iload_n G dL_law_492 rfl ?_
  refine z_iconst G (v := 1) dL_law_493 (by decide) ?_
  refine z_iadd G dL_law_494 ?_
  refine z_sld G hX hbl hE (i + 1) dL_law_495 (by simp (disch := omega) only [iN_lit, iN_add, iN_sub, iN_mul, iN_an, iN_of hu]; exact iN_ti2 (by omega) (by omega)) (by omega) ?_
  refine z_V G lk_L_64 dL_law_496 [_] rfl rfl rfl (Nat.le_of_ble_eq_true rfl) ⟨(Nat.le_of_ble_eq_true rfl), (Nat.le_of_ble_eq_true rfl)⟩ ho (pmX.mono hm (fun v2 S2 I2 P2 z => ?_))
  obtain ⟨rfl, h2⟩ := z
  exact z_icmp_eq G 1173 dL_law_499 (by decide) (fun _ => next S2 I2 P2 h2) (fun c => absurd rfl c)
set_option maxHeartbeats 1000000 in
set_option maxRecDepth 20000 in
theorem law_c12 {E : pmE} {C : pmC} (G : pm_G E C RL code 4 2001 600000 7302250) {b L : Nat} {xs : Nat → Int32} (hX : va_X b L xs C.s C.s.heap) (hbl : b < C.s.heap.size) (hE : E.2.1 = C.s.heap.size) {i : Nat} {u : Int32} (hu : u.toInt = (i : Int)) (hi : i + 6 ≤ L) (hL : L ≤ 3072) {S : pmS} {I : pmI} {P : pmP} (h : LW S I P) (next : ∀ S I P, LW S I P → pmZ E C 1173 [some (.ref b), some (rr E 0), some (rr E 660), some (.int u)] [] S I P 676 8217) : pmZ E C 504 [some (.ref b), some (rr E 0), some (rr E 660), some (.int u)] [] S I P 676 8217 := by
  refine z_aload_n G dL_law_504 rfl ?_
  refine z_V G lk_L_65 dL_law_505 [] rfl rfl rfl (Nat.le_of_ble_eq_true rfl) ⟨(Nat.le_of_ble_eq_true rfl), (Nat.le_of_ble_eq_true rfl)⟩ h.2.1.1.1 (pmX.mono (st_close h) (fun v1 S1 I1 P1 z => ?_))
  obtain ⟨x, rfl, ho, hm⟩ := z
  refine z_aload_n G dL_law_508 rfl ?_
  refine z_V G lk_L_68 dL_law_509 [] rfl rfl rfl (Nat.le_of_ble_eq_true rfl) ⟨(Nat.le_of_ble_eq_true rfl), (Nat.le_of_ble_eq_true rfl)⟩ ho (pmX.mono hm (fun v2 S2 I2 P2 z => ?_))
  obtain ⟨rfl, h2⟩ := z
  exact z_icmp_eq G 1173 dL_law_512 (by decide) (fun _ => next S2 I2 P2 h2) (fun c => absurd rfl c)
set_option maxHeartbeats 1000000 in
set_option maxRecDepth 20000 in
theorem law_c13 {E : pmE} {C : pmC} (G : pm_G E C RL code 4 2001 600000 7302250) {b L : Nat} {xs : Nat → Int32} (hX : va_X b L xs C.s C.s.heap) (hbl : b < C.s.heap.size) (hE : E.2.1 = C.s.heap.size) {i : Nat} {u : Int32} (hu : u.toInt = (i : Int)) (hi : i + 6 ≤ L) (hL : L ≤ 3072) {S : pmS} {I : pmI} {P : pmP} (h : LW S I P) (next : ∀ S I P, LW S I P → pmZ E C 1173 [some (.ref b), some (rr E 0), some (rr E 660), some (.int u)] [] S I P 676 8217) : pmZ E C 517 [some (.ref b), some (rr E 0), some (rr E 660), some (.int u)] [] S I P 676 8217 := by
  refine z_aload_n G dL_law_517 rfl ?_
  refine z_V G lk_L_69 dL_law_518 [] rfl rfl rfl (Nat.le_of_ble_eq_true rfl) ⟨(Nat.le_of_ble_eq_true rfl), (Nat.le_of_ble_eq_true rfl)⟩ h.2.1.1.1 (pmX.mono (st_again h) (fun v1 S1 I1 P1 z => ?_))
  obtain ⟨x, rfl, ho, hm⟩ := z
  refine z_aload_n G dL_law_521 rfl ?_
  refine z_V G lk_L_72 dL_law_522 [] rfl rfl rfl (Nat.le_of_ble_eq_true rfl) ⟨(Nat.le_of_ble_eq_true rfl), (Nat.le_of_ble_eq_true rfl)⟩ ho (pmX.mono hm (fun v2 S2 I2 P2 z => ?_))
  obtain ⟨rfl, h2⟩ := z
  exact z_icmp_eq G 1173 dL_law_525 (by decide) (fun _ => next S2 I2 P2 h2) (fun c => absurd rfl c)
set_option maxHeartbeats 1000000 in
set_option maxRecDepth 20000 in
theorem law_c14 {E : pmE} {C : pmC} (G : pm_G E C RL code 4 2001 600000 7302250) {b L : Nat} {xs : Nat → Int32} (hX : va_X b L xs C.s C.s.heap) (hbl : b < C.s.heap.size) (hE : E.2.1 = C.s.heap.size) {i : Nat} {u : Int32} (hu : u.toInt = (i : Int)) (hi : i + 6 ≤ L) (hL : L ≤ 3072) {S : pmS} {I : pmI} {P : pmP} (h : LW S I P) (next : ∀ S I P, LW S I P → pmZ E C 1173 [some (.ref b), some (rr E 0), some (rr E 660), some (.int u)] [] S I P 676 8217) : pmZ E C 530 [some (.ref b), some (rr E 0), some (rr E 660), some (.int u)] [] S I P 676 8217 := by
  refine z_aload_n G dL_law_530 rfl ?_
  refine z_V G lk_L_73 dL_law_531 [] rfl rfl rfl (Nat.le_of_ble_eq_true rfl) ⟨(Nat.le_of_ble_eq_true rfl), (Nat.le_of_ble_eq_true rfl)⟩ h.2.1.1.1 (pmX.mono (st_undo h) (fun v1 S1 I1 P1 z => ?_))
  obtain ⟨x, rfl, ho, hm⟩ := z
  refine z_aload_n G dL_law_534 rfl ?_
  refine z_V G lk_L_76 dL_law_535 [] rfl rfl rfl (Nat.le_of_ble_eq_true rfl) ⟨(Nat.le_of_ble_eq_true rfl), (Nat.le_of_ble_eq_true rfl)⟩ ho (pmX.mono hm (fun v2 S2 I2 P2 z => ?_))
  obtain ⟨rfl, h2⟩ := z
  exact z_icmp_eq G 1173 dL_law_538 (by decide) (fun _ => next S2 I2 P2 h2) (fun c => absurd rfl c)
set_option maxHeartbeats 1000000 in
set_option maxRecDepth 20000 in
theorem law_c15 {E : pmE} {C : pmC} (G : pm_G E C RL code 4 2001 600000 7302250) {b L : Nat} {xs : Nat → Int32} (hX : va_X b L xs C.s C.s.heap) (hbl : b < C.s.heap.size) (hE : E.2.1 = C.s.heap.size) {i : Nat} {u : Int32} (hu : u.toInt = (i : Int)) (hi : i + 6 ≤ L) (hL : L ≤ 3072) {S : pmS} {I : pmI} {P : pmP} (h : LW S I P) (next : ∀ S I P, LW S I P → pmZ E C 1173 [some (.ref b), some (rr E 0), some (rr E 660), some (.int u)] [] S I P 676 8217) : pmZ E C 543 [some (.ref b), some (rr E 0), some (rr E 660), some (.int u)] [] S I P 676 8217 := by
  refine z_aload_n G dL_law_543 rfl ?_
  refine z_aload_x G dL_law_544 rfl ?_
  refine z_iload_n G dL_law_545 rfl ?_
  refine z_iconst G (v := 1) dL_law_546 (by decide) ?_
  refine z_iadd G dL_law_547 ?_
  refine z_sld G hX hbl hE (i + 1) dL_law_548 (by simp (disch := omega) only [iN_lit, iN_add, iN_sub, iN_mul, iN_an, iN_of hu]; exact iN_ti2 (by omega) (by omega)) (by omega) ?_
  refine z_aload_x G dL_law_549 rfl ?_
  refine z_iload_n G dL_law_550 rfl ?_
  refine z_iconst G (v := 2) dL_law_551 (by decide) ?_
  refine z_iadd G dL_law_552 ?_
  refine z_sld G hX hbl hE (i + 2) dL_law_553 (by simp (disch := omega) only [iN_lit, iN_add, iN_sub, iN_mul, iN_an, iN_of hu]; exact iN_ti2 (by omega) (by omega)) (by omega) ?_
  refine z_V G lk_L_77 dL_law_554 [_, _] rfl rfl rfl (Nat.le_of_ble_eq_true rfl) ⟨(Nat.le_of_ble_eq_true rfl), (Nat.le_of_ble_eq_true rfl)⟩ h.2.1.1.1 (pmX.mono (st_tab h _ _) (fun v1 S1 I1 P1 z => ?_))
  obtain ⟨x, rfl, ho, hm⟩ := z
  refine z_aload_n G dL_law_557 rfl ?_
  refine z_aload_x G dL_law_558 rfl ?_
  refine z_iload_n G dL_law_559 rfl ?_
  refine z_iconst G (v := 1) dL_law_560 (by decide) ?_
  refine z_iadd G dL_law_561 ?_
  refine z_sld G hX hbl hE (i + 1) dL_law_562 (by simp (disch := omega) only [iN_lit, iN_add, iN_sub, iN_mul, iN_an, iN_of hu]; exact iN_ti2 (by omega) (by omega)) (by omega) ?_
  refine z_aload_x G dL_law_563 rfl ?_
  refine z_iload_n G dL_law_564 rfl ?_
  refine z_iconst G (v := 2) dL_law_565 (by decide) ?_
  refine z_iadd G dL_law_566 ?_
  refine z_sld G hX hbl hE (i + 2) dL_law_567 (by simp (disch := omega) only [iN_lit, iN_add, iN_sub, iN_mul, iN_an, iN_of hu]; exact iN_ti2 (by omega) (by omega)) (by omega) ?_
  refine z_V G lk_L_81 dL_law_568 [_, _] rfl rfl rfl (Nat.le_of_ble_eq_true rfl) ⟨(Nat.le_of_ble_eq_true rfl), (Nat.le_of_ble_eq_true rfl)⟩ ho (pmX.mono hm (fun v2 S2 I2 P2 z => ?_))
  obtain ⟨rfl, h2⟩ := z
  exact z_icmp_eq G 1173 dL_law_571 (by decide) (fun _ => next S2 I2 P2 h2) (fun c => absurd rfl c)
set_option maxHeartbeats 1000000 in
set_option maxRecDepth 20000 in
theorem law_c16 {E : pmE} {C : pmC} (G : pm_G E C RL code 4 2001 600000 7302250) {b L : Nat} {xs : Nat → Int32} (hX : va_X b L xs C.s C.s.heap) (hbl : b < C.s.heap.size) (hE : E.2.1 = C.s.heap.size) {i : Nat} {u : Int32} (hu : u.toInt = (i : Int)) (hi : i + 6 ≤ L) (hL : L ≤ 3072) {S : pmS} {I : pmI} {P : pmP} (h : LW S I P) (next : ∀ S I P, LW S I P → pmZ E C 1173 [some (.ref b), some (rr E 0), some (rr E 660), some (.int u)] [] S I P 676 8217) : pmZ E C 576 [some (.ref b), some (rr E 0), some (rr E 660), some (.int u)] [] S I P 676 8217 := by
  refine z_aload_n G dL_law_576 rfl ?_
  refine z_aload_x G dL_law_577 rfl ?_
  refine z_iload_n G dL_law_578 rfl ?_
  refine z_iconst G (v := 1) dL_law_579 (by decide) ?_
  refine z_iadd G dL_law_580 ?_
  refine z_sld G hX hbl hE (i + 1) dL_law_581 (by simp (disch := omega) only [iN_lit, iN_add, iN_sub, iN_mul, iN_an, iN_of hu]; exact iN_ti2 (by omega) (by omega)) (by omega) ?_
  refine z_aload_x G dL_law_582 rfl ?_
  refine z_iload_n G dL_law_583 rfl ?_
  refine z_iconst G (v := 2) dL_law_584 (by decide) ?_
  refine z_iadd G dL_law_585 ?_
  refine z_sld G hX hbl hE (i + 2) dL_law_586 (by simp (disch := omega) only [iN_lit, iN_add, iN_sub, iN_mul, iN_an, iN_of hu]; exact iN_ti2 (by omega) (by omega)) (by omega) ?_
  refine z_V G lk_L_82 dL_law_587 [_, _] rfl rfl rfl (Nat.le_of_ble_eq_true rfl) ⟨(Nat.le_of_ble_eq_true rfl), (Nat.le_of_ble_eq_true rfl)⟩ h.2.1.1.1 (pmX.mono (st_trail h _ _) (fun v1 S1 I1 P1 z => ?_))
  obtain ⟨x, rfl, ho, hm⟩ := z
  refine z_aload_n G dL_law_590 rfl ?_
  refine z_aload_x G dL_law_591 rfl ?_
  refine z_iload_n G dL_law_592 rfl ?_
  refine z_iconst G (v := 1) dL_law_593 (by decide) ?_
  refine z_iadd G dL_law_594 ?_
  refine z_sld G hX hbl hE (i + 1) dL_law_595 (by simp (disch := omega) only [iN_lit, iN_add, iN_sub, iN_mul, iN_an, iN_of hu]; exact iN_ti2 (by omega) (by omega)) (by omega) ?_
  refine z_aload_x G dL_law_596 rfl ?_
  refine z_iload_n G dL_law_597 rfl ?_
  refine z_iconst G (v := 2) dL_law_598 (by decide) ?_
  refine z_iadd G dL_law_599 ?_
  refine z_sld G hX hbl hE (i + 2) dL_law_600 (by simp (disch := omega) only [iN_lit, iN_add, iN_sub, iN_mul, iN_an, iN_of hu]; exact iN_ti2 (by omega) (by omega)) (by omega) ?_
  refine z_V G lk_L_85 dL_law_601 [_, _] rfl rfl rfl (Nat.le_of_ble_eq_true rfl) ⟨(Nat.le_of_ble_eq_true rfl), (Nat.le_of_ble_eq_true rfl)⟩ ho (pmX.mono hm (fun v2 S2 I2 P2 z => ?_))
  obtain ⟨rfl, h2⟩ := z
  exact z_icmp_eq G 1173 dL_law_604 (by decide) (fun _ => next S2 I2 P2 h2) (fun c => absurd rfl c)
set_option maxHeartbeats 1000000 in
set_option maxRecDepth 20000 in
theorem law_c17 {E : pmE} {C : pmC} (G : pm_G E C RL code 4 2001 600000 7302250) {b L : Nat} {xs : Nat → Int32} (hX : va_X b L xs C.s C.s.heap) (hbl : b < C.s.heap.size) (hE : E.2.1 = C.s.heap.size) {i : Nat} {u : Int32} (hu : u.toInt = (i : Int)) (hi : i + 6 ≤ L) (hL : L ≤ 3072) {S : pmS} {I : pmI} {P : pmP} (h : LW S I P) (next : ∀ S I P, LW S I P → pmZ E C 1173 [some (.ref b), some (rr E 0), some (rr E 660), some (.int u)] [] S I P 676 8217) : pmZ E C 609 [some (.ref b), some (rr E 0), some (rr E 660), some (.int u)] [] S I P 676 8217 := by
  refine z_aload_n G dL_law_609 rfl ?_
  refine z_aload_x G dL_law_610 rfl ?_
  refine z_iload_n G dL_law_611 rfl ?_
  refine z_iconst G (v := 1) dL_law_612 (by decide) ?_
  refine z_iadd G dL_law_613 ?_
  refine z_sld G hX hbl hE (i + 1) dL_law_614 (by simp (disch := omega) only [iN_lit, iN_add, iN_sub, iN_mul, iN_an, iN_of hu]; exact iN_ti2 (by omega) (by omega)) (by omega) ?_
  refine z_aload_x G dL_law_615 rfl ?_
  refine z_iload_n G dL_law_616 rfl ?_
  refine z_iconst G (v := 2) dL_law_617 (by decide) ?_
  refine z_iadd G dL_law_618 ?_
  refine z_sld G hX hbl hE (i + 2) dL_law_619 (by simp (disch := omega) only [iN_lit, iN_add, iN_sub, iN_mul, iN_an, iN_of hu]; exact iN_ti2 (by omega) (by omega)) (by omega) ?_
  refine z_V G lk_L_86 dL_law_620 [_, _] rfl rfl rfl (Nat.le_of_ble_eq_true rfl) ⟨(Nat.le_of_ble_eq_true rfl), (Nat.le_of_ble_eq_true rfl)⟩ h.2.1.1.1 (pmX.mono (st_page h _ _) (fun v1 S1 I1 P1 z => ?_))
  obtain ⟨x, rfl, ho, hm⟩ := z
  refine z_aload_n G dL_law_623 rfl ?_
  refine z_aload_x G dL_law_624 rfl ?_
  refine z_iload_n G dL_law_625 rfl ?_
  refine z_iconst G (v := 1) dL_law_626 (by decide) ?_
  refine z_iadd G dL_law_627 ?_
  refine z_sld G hX hbl hE (i + 1) dL_law_628 (by simp (disch := omega) only [iN_lit, iN_add, iN_sub, iN_mul, iN_an, iN_of hu]; exact iN_ti2 (by omega) (by omega)) (by omega) ?_
  refine z_aload_x G dL_law_629 rfl ?_
  refine z_iload_n G dL_law_630 rfl ?_
  refine z_iconst G (v := 2) dL_law_631 (by decide) ?_
  refine z_iadd G dL_law_632 ?_
  refine z_sld G hX hbl hE (i + 2) dL_law_633 (by simp (disch := omega) only [iN_lit, iN_add, iN_sub, iN_mul, iN_an, iN_of hu]; exact iN_ti2 (by omega) (by omega)) (by omega) ?_
  refine z_V G lk_L_89 dL_law_634 [_, _] rfl rfl rfl (Nat.le_of_ble_eq_true rfl) ⟨(Nat.le_of_ble_eq_true rfl), (Nat.le_of_ble_eq_true rfl)⟩ ho (pmX.mono hm (fun v2 S2 I2 P2 z => ?_))
  obtain ⟨rfl, h2⟩ := z
  exact z_icmp_eq G 1173 dL_law_637 (by decide) (fun _ => next S2 I2 P2 h2) (fun c => absurd rfl c)
set_option maxHeartbeats 1000000 in
set_option maxRecDepth 20000 in
theorem law_c18 {E : pmE} {C : pmC} (G : pm_G E C RL code 4 2001 600000 7302250) {b L : Nat} {xs : Nat → Int32} (hX : va_X b L xs C.s C.s.heap) (hbl : b < C.s.heap.size) (hE : E.2.1 = C.s.heap.size) {i : Nat} {u : Int32} (hu : u.toInt = (i : Int)) (hi : i + 6 ≤ L) (hL : L ≤ 3072) {S : pmS} {I : pmI} {P : pmP} (h : LW S I P) (next : ∀ S I P, LW S I P → pmZ E C 1173 [some (.ref b), some (rr E 0), some (rr E 660), some (.int u)] [] S I P 676 8217) : pmZ E C 642 [some (.ref b), some (rr E 0), some (rr E 660), some (.int u)] [] S I P 676 8217 := by
  refine z_aload_n G dL_law_642 rfl ?_
  refine z_aload_x G dL_law_643 rfl ?_
  refine z_iload_n G dL_law_644 rfl ?_
  refine z_iconst G (v := 1) dL_law_645 (by decide) ?_
  refine z_iadd G dL_law_646 ?_
  refine z_sld G hX hbl hE (i + 1) dL_law_647 (by simp (disch := omega) only [iN_lit, iN_add, iN_sub, iN_mul, iN_an, iN_of hu]; exact iN_ti2 (by omega) (by omega)) (by omega) ?_
  refine z_aload_x G dL_law_648 rfl ?_
  refine z_iload_n G dL_law_649 rfl ?_
  refine z_iconst G (v := 2) dL_law_650 (by decide) ?_
  refine z_iadd G dL_law_651 ?_
  refine z_sld G hX hbl hE (i + 2) dL_law_652 (by simp (disch := omega) only [iN_lit, iN_add, iN_sub, iN_mul, iN_an, iN_of hu]; exact iN_ti2 (by omega) (by omega)) (by omega) ?_
  refine z_V G lk_L_90 dL_law_653 [_, _] rfl rfl rfl (Nat.le_of_ble_eq_true rfl) ⟨(Nat.le_of_ble_eq_true rfl), (Nat.le_of_ble_eq_true rfl)⟩ h.2.1.1.1 (pmX.mono (st_walk h _ _) (fun v1 S1 I1 P1 z => ?_))
  obtain ⟨x, rfl, ho, hm⟩ := z
  refine z_aload_n G dL_law_656 rfl ?_
  refine z_aload_x G dL_law_657 rfl ?_
  refine z_iload_n G dL_law_658 rfl ?_
  refine z_iconst G (v := 1) dL_law_659 (by decide) ?_
  refine z_iadd G dL_law_660 ?_
  refine z_sld G hX hbl hE (i + 1) dL_law_661 (by simp (disch := omega) only [iN_lit, iN_add, iN_sub, iN_mul, iN_an, iN_of hu]; exact iN_ti2 (by omega) (by omega)) (by omega) ?_
  refine z_aload_x G dL_law_662 rfl ?_
  refine z_iload_n G dL_law_663 rfl ?_
  refine z_iconst G (v := 2) dL_law_664 (by decide) ?_
  refine z_iadd G dL_law_665 ?_
  refine z_sld G hX hbl hE (i + 2) dL_law_666 (by simp (disch := omega) only [iN_lit, iN_add, iN_sub, iN_mul, iN_an, iN_of hu]; exact iN_ti2 (by omega) (by omega)) (by omega) ?_
  refine z_V G lk_L_93 dL_law_667 [_, _] rfl rfl rfl (Nat.le_of_ble_eq_true rfl) ⟨(Nat.le_of_ble_eq_true rfl), (Nat.le_of_ble_eq_true rfl)⟩ ho (pmX.mono hm (fun v2 S2 I2 P2 z => ?_))
  obtain ⟨rfl, h2⟩ := z
  exact z_icmp_eq G 1173 dL_law_670 (by decide) (fun _ => next S2 I2 P2 h2) (fun c => absurd rfl c)
set_option maxHeartbeats 1000000 in
set_option maxRecDepth 20000 in
theorem law_c19 {E : pmE} {C : pmC} (G : pm_G E C RL code 4 2001 600000 7302250) {b L : Nat} {xs : Nat → Int32} (hX : va_X b L xs C.s C.s.heap) (hbl : b < C.s.heap.size) (hE : E.2.1 = C.s.heap.size) {i : Nat} {u : Int32} (hu : u.toInt = (i : Int)) (hi : i + 6 ≤ L) (hL : L ≤ 3072) {S : pmS} {I : pmI} {P : pmP} (h : LW S I P) (next : ∀ S I P, LW S I P → pmZ E C 1173 [some (.ref b), some (rr E 0), some (rr E 660), some (.int u)] [] S I P 676 8217) : pmZ E C 675 [some (.ref b), some (rr E 0), some (rr E 660), some (.int u)] [] S I P 676 8217 := by
  refine z_aload_n G dL_law_675 rfl ?_
  refine z_aload_x G dL_law_676 rfl ?_
  refine z_iload_n G dL_law_677 rfl ?_
  refine z_iconst G (v := 1) dL_law_678 (by decide) ?_
  refine z_iadd G dL_law_679 ?_
  refine z_sld G hX hbl hE (i + 1) dL_law_680 (by simp (disch := omega) only [iN_lit, iN_add, iN_sub, iN_mul, iN_an, iN_of hu]; exact iN_ti2 (by omega) (by omega)) (by omega) ?_
  refine z_aload_x G dL_law_681 rfl ?_
  refine z_iload_n G dL_law_682 rfl ?_
  refine z_iconst G (v := 2) dL_law_683 (by decide) ?_
  refine z_iadd G dL_law_684 ?_
  refine z_sld G hX hbl hE (i + 2) dL_law_685 (by simp (disch := omega) only [iN_lit, iN_add, iN_sub, iN_mul, iN_an, iN_of hu]; exact iN_ti2 (by omega) (by omega)) (by omega) ?_
  refine z_V G lk_L_94 dL_law_686 [_, _] rfl rfl rfl (Nat.le_of_ble_eq_true rfl) ⟨(Nat.le_of_ble_eq_true rfl), (Nat.le_of_ble_eq_true rfl)⟩ h.2.1.1.1 (pmX.mono (st_far h _ _) (fun v1 S1 I1 P1 z => ?_))
  obtain ⟨x, rfl, ho, hm⟩ := z
  refine z_aload_n G dL_law_689 rfl ?_
  refine z_aload_x G dL_law_690 rfl ?_
  refine z_iload_n G dL_law_691 rfl ?_
  refine z_iconst G (v := 1) dL_law_692 (by decide) ?_
  refine z_iadd G dL_law_693 ?_
  refine z_sld G hX hbl hE (i + 1) dL_law_694 (by simp (disch := omega) only [iN_lit, iN_add, iN_sub, iN_mul, iN_an, iN_of hu]; exact iN_ti2 (by omega) (by omega)) (by omega) ?_
  refine z_aload_x G dL_law_695 rfl ?_
  refine z_iload_n G dL_law_696 rfl ?_
  refine z_iconst G (v := 2) dL_law_697 (by decide) ?_
  refine z_iadd G dL_law_698 ?_
  refine z_sld G hX hbl hE (i + 2) dL_law_699 (by simp (disch := omega) only [iN_lit, iN_add, iN_sub, iN_mul, iN_an, iN_of hu]; exact iN_ti2 (by omega) (by omega)) (by omega) ?_
  refine z_V G lk_L_97 dL_law_700 [_, _] rfl rfl rfl (Nat.le_of_ble_eq_true rfl) ⟨(Nat.le_of_ble_eq_true rfl), (Nat.le_of_ble_eq_true rfl)⟩ ho (pmX.mono hm (fun v2 S2 I2 P2 z => ?_))
  obtain ⟨rfl, h2⟩ := z
  exact z_icmp_eq G 1173 dL_law_703 (by decide) (fun _ => next S2 I2 P2 h2) (fun c => absurd rfl c)
set_option maxHeartbeats 1000000 in
set_option maxRecDepth 20000 in
theorem law_c20 {E : pmE} {C : pmC} (G : pm_G E C RL code 4 2001 600000 7302250) {b L : Nat} {xs : Nat → Int32} (hX : va_X b L xs C.s C.s.heap) (hbl : b < C.s.heap.size) (hE : E.2.1 = C.s.heap.size) {i : Nat} {u : Int32} (hu : u.toInt = (i : Int)) (hi : i + 6 ≤ L) (hL : L ≤ 3072) {S : pmS} {I : pmI} {P : pmP} (h : LW S I P) (next : ∀ S I P, LW S I P → pmZ E C 1173 [some (.ref b), some (rr E 0), some (rr E 660), some (.int u)] [] S I P 676 8217) : pmZ E C 708 [some (.ref b), some (rr E 0), some (rr E 660), some (.int u)] [] S I P 676 8217 := by
  refine z_aload_n G dL_law_708 rfl ?_
  refine z_aload_x G dL_law_709 rfl ?_
  refine z_iload_n G dL_law_710 rfl ?_
  refine z_iconst G (v := 1) dL_law_711 (by decide) ?_
  refine z_iadd G dL_law_712 ?_
  refine z_sld G hX hbl hE (i + 1) dL_law_713 (by simp (disch := omega) only [iN_lit, iN_add, iN_sub, iN_mul, iN_an, iN_of hu]; exact iN_ti2 (by omega) (by omega)) (by omega) ?_
  refine z_V G lk_L_98 dL_law_714 [_] rfl rfl rfl (Nat.le_of_ble_eq_true rfl) ⟨(Nat.le_of_ble_eq_true rfl), (Nat.le_of_ble_eq_true rfl)⟩ h.2.1.1.1 (pmX.mono (st_round h _) (fun v1 S1 I1 P1 z => ?_))
  obtain ⟨x, rfl, ho, hm⟩ := z
  refine z_aload_n G dL_law_717 rfl ?_
  refine z_aload_x G dL_law_718 rfl ?_
  refine z_iload_n G dL_law_719 rfl ?_
  refine z_iconst G (v := 1) dL_law_720 (by decide) ?_
  refine z_iadd G dL_law_721 ?_
  refine z_sld G hX hbl hE (i + 1) dL_law_722 (by simp (disch := omega) only [iN_lit, iN_add, iN_sub, iN_mul, iN_an, iN_of hu]; exact iN_ti2 (by omega) (by omega)) (by omega) ?_
  refine z_V G lk_L_101 dL_law_723 [_] rfl rfl rfl (Nat.le_of_ble_eq_true rfl) ⟨(Nat.le_of_ble_eq_true rfl), (Nat.le_of_ble_eq_true rfl)⟩ ho (pmX.mono hm (fun v2 S2 I2 P2 z => ?_))
  obtain ⟨rfl, h2⟩ := z
  exact z_icmp_eq G 1173 dL_law_726 (by decide) (fun _ => next S2 I2 P2 h2) (fun c => absurd rfl c)
set_option maxHeartbeats 1000000 in
set_option maxRecDepth 20000 in
theorem law_c21 {E : pmE} {C : pmC} (G : pm_G E C RL code 4 2001 600000 7302250) {b L : Nat} {xs : Nat → Int32} (hX : va_X b L xs C.s C.s.heap) (hbl : b < C.s.heap.size) (hE : E.2.1 = C.s.heap.size) {i : Nat} {u : Int32} (hu : u.toInt = (i : Int)) (hi : i + 6 ≤ L) (hL : L ≤ 3072) {S : pmS} {I : pmI} {P : pmP} (h : LW S I P) (next : ∀ S I P, LW S I P → pmZ E C 1173 [some (.ref b), some (rr E 0), some (rr E 660), some (.int u)] [] S I P 676 8217) : pmZ E C 731 [some (.ref b), some (rr E 0), some (rr E 660), some (.int u)] [] S I P 676 8217 := by
  refine z_aload_n G dL_law_731 rfl ?_
  refine z_aload_x G dL_law_732 rfl ?_
  refine z_iload_n G dL_law_733 rfl ?_
  refine z_iconst G (v := 1) dL_law_734 (by decide) ?_
  refine z_iadd G dL_law_735 ?_
  refine z_sld G hX hbl hE (i + 1) dL_law_736 (by simp (disch := omega) only [iN_lit, iN_add, iN_sub, iN_mul, iN_an, iN_of hu]; exact iN_ti2 (by omega) (by omega)) (by omega) ?_
  refine z_aload_x G dL_law_737 rfl ?_
  refine z_iload_n G dL_law_738 rfl ?_
  refine z_iconst G (v := 2) dL_law_739 (by decide) ?_
  refine z_iadd G dL_law_740 ?_
  refine z_sld G hX hbl hE (i + 2) dL_law_741 (by simp (disch := omega) only [iN_lit, iN_add, iN_sub, iN_mul, iN_an, iN_of hu]; exact iN_ti2 (by omega) (by omega)) (by omega) ?_
  refine z_V G lk_L_102 dL_law_742 [_, _] rfl rfl rfl (Nat.le_of_ble_eq_true rfl) ⟨(Nat.le_of_ble_eq_true rfl), (Nat.le_of_ble_eq_true rfl)⟩ h.2.1.1.1 (pmX.mono (st_to h _ _) (fun v1 S1 I1 P1 z => ?_))
  obtain ⟨x, rfl, ho, hm⟩ := z
  refine z_aload_n G dL_law_745 rfl ?_
  refine z_aload_x G dL_law_746 rfl ?_
  refine z_iload_n G dL_law_747 rfl ?_
  refine z_iconst G (v := 1) dL_law_748 (by decide) ?_
  refine z_iadd G dL_law_749 ?_
  refine z_sld G hX hbl hE (i + 1) dL_law_750 (by simp (disch := omega) only [iN_lit, iN_add, iN_sub, iN_mul, iN_an, iN_of hu]; exact iN_ti2 (by omega) (by omega)) (by omega) ?_
  refine z_aload_x G dL_law_751 rfl ?_
  refine z_iload_n G dL_law_752 rfl ?_
  refine z_iconst G (v := 2) dL_law_753 (by decide) ?_
  refine z_iadd G dL_law_754 ?_
  refine z_sld G hX hbl hE (i + 2) dL_law_755 (by simp (disch := omega) only [iN_lit, iN_add, iN_sub, iN_mul, iN_an, iN_of hu]; exact iN_ti2 (by omega) (by omega)) (by omega) ?_
  refine z_V G lk_L_105 dL_law_756 [_, _] rfl rfl rfl (Nat.le_of_ble_eq_true rfl) ⟨(Nat.le_of_ble_eq_true rfl), (Nat.le_of_ble_eq_true rfl)⟩ ho (pmX.mono hm (fun v2 S2 I2 P2 z => ?_))
  obtain ⟨rfl, h2⟩ := z
  exact z_icmp_eq G 1173 dL_law_759 (by decide) (fun _ => next S2 I2 P2 h2) (fun c => absurd rfl c)
set_option maxHeartbeats 1000000 in
set_option maxRecDepth 20000 in
theorem law_c22 {E : pmE} {C : pmC} (G : pm_G E C RL code 4 2001 600000 7302250) {b L : Nat} {xs : Nat → Int32} (hX : va_X b L xs C.s C.s.heap) (hbl : b < C.s.heap.size) (hE : E.2.1 = C.s.heap.size) {i : Nat} {u : Int32} (hu : u.toInt = (i : Int)) (hi : i + 6 ≤ L) (hL : L ≤ 3072) {S : pmS} {I : pmI} {P : pmP} (h : LW S I P) (next : ∀ S I P, LW S I P → pmZ E C 1173 [some (.ref b), some (rr E 0), some (rr E 660), some (.int u)] [] S I P 676 8217) : pmZ E C 764 [some (.ref b), some (rr E 0), some (rr E 660), some (.int u)] [] S I P 676 8217 := by
  refine z_aload_n G dL_law_764 rfl ?_
  refine z_aload_x G dL_law_765 rfl ?_
  refine z_iload_n G dL_law_766 rfl ?_
  refine z_iconst G (v := 1) dL_law_767 (by decide) ?_
  refine z_iadd G dL_law_768 ?_
  refine z_sld G hX hbl hE (i + 1) dL_law_769 (by simp (disch := omega) only [iN_lit, iN_add, iN_sub, iN_mul, iN_an, iN_of hu]; exact iN_ti2 (by omega) (by omega)) (by omega) ?_
  refine z_aload_x G dL_law_770 rfl ?_
  refine z_iload_n G dL_law_771 rfl ?_
  refine z_iconst G (v := 2) dL_law_772 (by decide) ?_
  refine z_iadd G dL_law_773 ?_
  refine z_sld G hX hbl hE (i + 2) dL_law_774 (by simp (disch := omega) only [iN_lit, iN_add, iN_sub, iN_mul, iN_an, iN_of hu]; exact iN_ti2 (by omega) (by omega)) (by omega) ?_
  refine z_V G lk_L_106 dL_law_775 [_, _] rfl rfl rfl (Nat.le_of_ble_eq_true rfl) ⟨(Nat.le_of_ble_eq_true rfl), (Nat.le_of_ble_eq_true rfl)⟩ h.2.1.1.1 (pmX.mono (st_ways h _ _) (fun v1 S1 I1 P1 z => ?_))
  obtain ⟨x, rfl, ho, hm⟩ := z
  refine z_aload_n G dL_law_778 rfl ?_
  refine z_aload_x G dL_law_779 rfl ?_
  refine z_iload_n G dL_law_780 rfl ?_
  refine z_iconst G (v := 1) dL_law_781 (by decide) ?_
  refine z_iadd G dL_law_782 ?_
  refine z_sld G hX hbl hE (i + 1) dL_law_783 (by simp (disch := omega) only [iN_lit, iN_add, iN_sub, iN_mul, iN_an, iN_of hu]; exact iN_ti2 (by omega) (by omega)) (by omega) ?_
  refine z_aload_x G dL_law_784 rfl ?_
  refine z_iload_n G dL_law_785 rfl ?_
  refine z_iconst G (v := 2) dL_law_786 (by decide) ?_
  refine z_iadd G dL_law_787 ?_
  refine z_sld G hX hbl hE (i + 2) dL_law_788 (by simp (disch := omega) only [iN_lit, iN_add, iN_sub, iN_mul, iN_an, iN_of hu]; exact iN_ti2 (by omega) (by omega)) (by omega) ?_
  refine z_V G lk_L_109 dL_law_789 [_, _] rfl rfl rfl (Nat.le_of_ble_eq_true rfl) ⟨(Nat.le_of_ble_eq_true rfl), (Nat.le_of_ble_eq_true rfl)⟩ ho (pmX.mono hm (fun v2 S2 I2 P2 z => ?_))
  obtain ⟨rfl, h2⟩ := z
  exact z_icmp_eq G 1173 dL_law_792 (by decide) (fun _ => next S2 I2 P2 h2) (fun c => absurd rfl c)
set_option maxHeartbeats 1000000 in
set_option maxRecDepth 20000 in
theorem law_c23 {E : pmE} {C : pmC} (G : pm_G E C RL code 4 2001 600000 7302250) {b L : Nat} {xs : Nat → Int32} (hX : va_X b L xs C.s C.s.heap) (hbl : b < C.s.heap.size) (hE : E.2.1 = C.s.heap.size) {i : Nat} {u : Int32} (hu : u.toInt = (i : Int)) (hi : i + 6 ≤ L) (hL : L ≤ 3072) {S : pmS} {I : pmI} {P : pmP} (h : LW S I P) (next : ∀ S I P, LW S I P → pmZ E C 1173 [some (.ref b), some (rr E 0), some (rr E 660), some (.int u)] [] S I P 676 8217) : pmZ E C 797 [some (.ref b), some (rr E 0), some (rr E 660), some (.int u)] [] S I P 676 8217 := by
  refine z_aload_n G dL_law_797 rfl ?_
  refine z_aload_x G dL_law_798 rfl ?_
  refine z_iload_n G dL_law_799 rfl ?_
  refine z_iconst G (v := 1) dL_law_800 (by decide) ?_
  refine z_iadd G dL_law_801 ?_
  refine z_sld G hX hbl hE (i + 1) dL_law_802 (by simp (disch := omega) only [iN_lit, iN_add, iN_sub, iN_mul, iN_an, iN_of hu]; exact iN_ti2 (by omega) (by omega)) (by omega) ?_
  refine z_aload_x G dL_law_803 rfl ?_
  refine z_iload_n G dL_law_804 rfl ?_
  refine z_iconst G (v := 2) dL_law_805 (by decide) ?_
  refine z_iadd G dL_law_806 ?_
  refine z_sld G hX hbl hE (i + 2) dL_law_807 (by simp (disch := omega) only [iN_lit, iN_add, iN_sub, iN_mul, iN_an, iN_of hu]; exact iN_ti2 (by omega) (by omega)) (by omega) ?_
  refine z_V G lk_L_110 dL_law_808 [_, _] rfl rfl rfl (Nat.le_of_ble_eq_true rfl) ⟨(Nat.le_of_ble_eq_true rfl), (Nat.le_of_ble_eq_true rfl)⟩ h.2.1.1.1 (pmX.mono (st_share h _ _) (fun v1 S1 I1 P1 z => ?_))
  obtain ⟨x, rfl, ho, hm⟩ := z
  refine z_aload_n G dL_law_811 rfl ?_
  refine z_aload_x G dL_law_812 rfl ?_
  refine z_iload_n G dL_law_813 rfl ?_
  refine z_iconst G (v := 1) dL_law_814 (by decide) ?_
  refine z_iadd G dL_law_815 ?_
  refine z_sld G hX hbl hE (i + 1) dL_law_816 (by simp (disch := omega) only [iN_lit, iN_add, iN_sub, iN_mul, iN_an, iN_of hu]; exact iN_ti2 (by omega) (by omega)) (by omega) ?_
  refine z_aload_x G dL_law_817 rfl ?_
  refine z_iload_n G dL_law_818 rfl ?_
  refine z_iconst G (v := 2) dL_law_819 (by decide) ?_
  refine z_iadd G dL_law_820 ?_
  refine z_sld G hX hbl hE (i + 2) dL_law_821 (by simp (disch := omega) only [iN_lit, iN_add, iN_sub, iN_mul, iN_an, iN_of hu]; exact iN_ti2 (by omega) (by omega)) (by omega) ?_
  refine z_V G lk_L_113 dL_law_822 [_, _] rfl rfl rfl (Nat.le_of_ble_eq_true rfl) ⟨(Nat.le_of_ble_eq_true rfl), (Nat.le_of_ble_eq_true rfl)⟩ ho (pmX.mono hm (fun v2 S2 I2 P2 z => ?_))
  obtain ⟨rfl, h2⟩ := z
  exact z_icmp_eq G 1173 dL_law_825 (by decide) (fun _ => next S2 I2 P2 h2) (fun c => absurd rfl c)
set_option maxHeartbeats 1000000 in
set_option maxRecDepth 20000 in
theorem law_c24 {E : pmE} {C : pmC} (G : pm_G E C RL code 4 2001 600000 7302250) {b L : Nat} {xs : Nat → Int32} (hX : va_X b L xs C.s C.s.heap) (hbl : b < C.s.heap.size) (hE : E.2.1 = C.s.heap.size) {i : Nat} {u : Int32} (hu : u.toInt = (i : Int)) (hi : i + 6 ≤ L) (hL : L ≤ 3072) {S : pmS} {I : pmI} {P : pmP} (h : LW S I P) (next : ∀ S I P, LW S I P → pmZ E C 1173 [some (.ref b), some (rr E 0), some (rr E 660), some (.int u)] [] S I P 676 8217) : pmZ E C 830 [some (.ref b), some (rr E 0), some (rr E 660), some (.int u)] [] S I P 676 8217 := by
  refine z_aload_n G dL_law_830 rfl ?_
  refine z_aload_x G dL_law_831 rfl ?_
  refine z_iload_n G dL_law_832 rfl ?_
  refine z_iconst G (v := 1) dL_law_833 (by decide) ?_
  refine z_iadd G dL_law_834 ?_
  refine z_sld G hX hbl hE (i + 1) dL_law_835 (by simp (disch := omega) only [iN_lit, iN_add, iN_sub, iN_mul, iN_an, iN_of hu]; exact iN_ti2 (by omega) (by omega)) (by omega) ?_
  refine z_aload_x G dL_law_836 rfl ?_
  refine z_iload_n G dL_law_837 rfl ?_
  refine z_iconst G (v := 2) dL_law_838 (by decide) ?_
  refine z_iadd G dL_law_839 ?_
  refine z_sld G hX hbl hE (i + 2) dL_law_840 (by simp (disch := omega) only [iN_lit, iN_add, iN_sub, iN_mul, iN_an, iN_of hu]; exact iN_ti2 (by omega) (by omega)) (by omega) ?_
  refine z_aload_x G dL_law_841 rfl ?_
  refine z_iload_n G dL_law_842 rfl ?_
  refine z_iconst G (v := 3) dL_law_843 (by decide) ?_
  refine z_iadd G dL_law_844 ?_
  refine z_sld G hX hbl hE (i + 3) dL_law_845 (by simp (disch := omega) only [iN_lit, iN_add, iN_sub, iN_mul, iN_an, iN_of hu]; exact iN_ti2 (by omega) (by omega)) (by omega) ?_
  refine z_aload_x G dL_law_846 rfl ?_
  refine z_iload_n G dL_law_847 rfl ?_
  refine z_iconst G (v := 4) dL_law_848 (by decide) ?_
  refine z_iadd G dL_law_849 ?_
  refine z_sld G hX hbl hE (i + 4) dL_law_850 (by simp (disch := omega) only [iN_lit, iN_add, iN_sub, iN_mul, iN_an, iN_of hu]; exact iN_ti2 (by omega) (by omega)) (by omega) ?_
  refine z_aload_x G dL_law_851 rfl ?_
  refine z_iload_n G dL_law_852 rfl ?_
  refine z_iconst G (v := 5) dL_law_853 (by decide) ?_
  refine z_iadd G dL_law_854 ?_
  refine z_sld G hX hbl hE (i + 5) dL_law_855 (by simp (disch := omega) only [iN_lit, iN_add, iN_sub, iN_mul, iN_an, iN_of hu]; exact iN_ti2 (by omega) (by omega)) (by omega) ?_
  refine z_V G lk_L_114 dL_law_856 [_, _, _, _, _] rfl rfl rfl (Nat.le_of_ble_eq_true rfl) ⟨(Nat.le_of_ble_eq_true rfl), (Nat.le_of_ble_eq_true rfl)⟩ h.2.1.1.1 (pmX.mono (st_fits h _ _ _ _ _) (fun v1 S1 I1 P1 z => ?_))
  obtain ⟨x, rfl, ho, hm⟩ := z
  refine z_aload_n G dL_law_859 rfl ?_
  refine z_aload_x G dL_law_860 rfl ?_
  refine z_iload_n G dL_law_861 rfl ?_
  refine z_iconst G (v := 1) dL_law_862 (by decide) ?_
  refine z_iadd G dL_law_863 ?_
  refine z_sld G hX hbl hE (i + 1) dL_law_864 (by simp (disch := omega) only [iN_lit, iN_add, iN_sub, iN_mul, iN_an, iN_of hu]; exact iN_ti2 (by omega) (by omega)) (by omega) ?_
  refine z_aload_x G dL_law_865 rfl ?_
  refine z_iload_n G dL_law_866 rfl ?_
  refine z_iconst G (v := 2) dL_law_867 (by decide) ?_
  refine z_iadd G dL_law_868 ?_
  refine z_sld G hX hbl hE (i + 2) dL_law_869 (by simp (disch := omega) only [iN_lit, iN_add, iN_sub, iN_mul, iN_an, iN_of hu]; exact iN_ti2 (by omega) (by omega)) (by omega) ?_
  refine z_aload_x G dL_law_870 rfl ?_
  refine z_iload_n G dL_law_871 rfl ?_
  refine z_iconst G (v := 3) dL_law_872 (by decide) ?_
  refine z_iadd G dL_law_873 ?_
  refine z_sld G hX hbl hE (i + 3) dL_law_874 (by simp (disch := omega) only [iN_lit, iN_add, iN_sub, iN_mul, iN_an, iN_of hu]; exact iN_ti2 (by omega) (by omega)) (by omega) ?_
  refine z_aload_x G dL_law_875 rfl ?_
  refine z_iload_n G dL_law_876 rfl ?_
  refine z_iconst G (v := 4) dL_law_877 (by decide) ?_
  refine z_iadd G dL_law_878 ?_
  refine z_sld G hX hbl hE (i + 4) dL_law_879 (by simp (disch := omega) only [iN_lit, iN_add, iN_sub, iN_mul, iN_an, iN_of hu]; exact iN_ti2 (by omega) (by omega)) (by omega) ?_
  refine z_aload_x G dL_law_880 rfl ?_
  refine z_iload_n G dL_law_881 rfl ?_
  refine z_iconst G (v := 5) dL_law_882 (by decide) ?_
  refine z_iadd G dL_law_883 ?_
  refine z_sld G hX hbl hE (i + 5) dL_law_884 (by simp (disch := omega) only [iN_lit, iN_add, iN_sub, iN_mul, iN_an, iN_of hu]; exact iN_ti2 (by omega) (by omega)) (by omega) ?_
  refine z_V G lk_L_117 dL_law_885 [_, _, _, _, _] rfl rfl rfl (Nat.le_of_ble_eq_true rfl) ⟨(Nat.le_of_ble_eq_true rfl), (Nat.le_of_ble_eq_true rfl)⟩ ho (pmX.mono hm (fun v2 S2 I2 P2 z => ?_))
  obtain ⟨rfl, h2⟩ := z
  exact z_icmp_eq G 1173 dL_law_888 (by decide) (fun _ => next S2 I2 P2 h2) (fun c => absurd rfl c)
set_option maxHeartbeats 1000000 in
set_option maxRecDepth 20000 in
theorem law_c25 {E : pmE} {C : pmC} (G : pm_G E C RL code 4 2001 600000 7302250) {b L : Nat} {xs : Nat → Int32} (hX : va_X b L xs C.s C.s.heap) (hbl : b < C.s.heap.size) (hE : E.2.1 = C.s.heap.size) {i : Nat} {u : Int32} (hu : u.toInt = (i : Int)) (hi : i + 6 ≤ L) (hL : L ≤ 3072) {S : pmS} {I : pmI} {P : pmP} (h : LW S I P) (next : ∀ S I P, LW S I P → pmZ E C 1173 [some (.ref b), some (rr E 0), some (rr E 660), some (.int u)] [] S I P 676 8217) : pmZ E C 893 [some (.ref b), some (rr E 0), some (rr E 660), some (.int u)] [] S I P 676 8217 := by
  refine z_aload_n G dL_law_893 rfl ?_
  refine z_aload_x G dL_law_894 rfl ?_
  refine z_iload_n G dL_law_895 rfl ?_
  refine z_iconst G (v := 1) dL_law_896 (by decide) ?_
  refine z_iadd G dL_law_897 ?_
  refine z_sld G hX hbl hE (i + 1) dL_law_898 (by simp (disch := omega) only [iN_lit, iN_add, iN_sub, iN_mul, iN_an, iN_of hu]; exact iN_ti2 (by omega) (by omega)) (by omega) ?_
  refine z_aload_x G dL_law_899 rfl ?_
  refine z_iload_n G dL_law_900 rfl ?_
  refine z_iconst G (v := 2) dL_law_901 (by decide) ?_
  refine z_iadd G dL_law_902 ?_
  refine z_sld G hX hbl hE (i + 2) dL_law_903 (by simp (disch := omega) only [iN_lit, iN_add, iN_sub, iN_mul, iN_an, iN_of hu]; exact iN_ti2 (by omega) (by omega)) (by omega) ?_
  refine z_aload_x G dL_law_904 rfl ?_
  refine z_iload_n G dL_law_905 rfl ?_
  refine z_iconst G (v := 3) dL_law_906 (by decide) ?_
  refine z_iadd G dL_law_907 ?_
  refine z_sld G hX hbl hE (i + 3) dL_law_908 (by simp (disch := omega) only [iN_lit, iN_add, iN_sub, iN_mul, iN_an, iN_of hu]; exact iN_ti2 (by omega) (by omega)) (by omega) ?_
  refine z_V G lk_L_118 dL_law_909 [_, _, _] rfl rfl rfl (Nat.le_of_ble_eq_true rfl) ⟨(Nat.le_of_ble_eq_true rfl), (Nat.le_of_ble_eq_true rfl)⟩ h.2.1.1.1 (pmX.mono (st_chance h _ _ _) (fun v1 S1 I1 P1 z => ?_))
  obtain ⟨x, rfl, ho, hm⟩ := z
  refine z_aload_n G dL_law_912 rfl ?_
  refine z_aload_x G dL_law_913 rfl ?_
  refine z_iload_n G dL_law_914 rfl ?_
  refine z_iconst G (v := 1) dL_law_915 (by decide) ?_
  refine z_iadd G dL_law_916 ?_
  refine z_sld G hX hbl hE (i + 1) dL_law_917 (by simp (disch := omega) only [iN_lit, iN_add, iN_sub, iN_mul, iN_an, iN_of hu]; exact iN_ti2 (by omega) (by omega)) (by omega) ?_
  refine z_aload_x G dL_law_918 rfl ?_
  refine z_iload_n G dL_law_919 rfl ?_
  refine z_iconst G (v := 2) dL_law_920 (by decide) ?_
  refine z_iadd G dL_law_921 ?_
  refine z_sld G hX hbl hE (i + 2) dL_law_922 (by simp (disch := omega) only [iN_lit, iN_add, iN_sub, iN_mul, iN_an, iN_of hu]; exact iN_ti2 (by omega) (by omega)) (by omega) ?_
  refine z_aload_x G dL_law_923 rfl ?_
  refine z_iload_n G dL_law_924 rfl ?_
  refine z_iconst G (v := 3) dL_law_925 (by decide) ?_
  refine z_iadd G dL_law_926 ?_
  refine z_sld G hX hbl hE (i + 3) dL_law_927 (by simp (disch := omega) only [iN_lit, iN_add, iN_sub, iN_mul, iN_an, iN_of hu]; exact iN_ti2 (by omega) (by omega)) (by omega) ?_
  refine z_V G lk_L_121 dL_law_928 [_, _, _] rfl rfl rfl (Nat.le_of_ble_eq_true rfl) ⟨(Nat.le_of_ble_eq_true rfl), (Nat.le_of_ble_eq_true rfl)⟩ ho (pmX.mono hm (fun v2 S2 I2 P2 z => ?_))
  obtain ⟨rfl, h2⟩ := z
  exact z_icmp_eq G 1173 dL_law_931 (by decide) (fun _ => next S2 I2 P2 h2) (fun c => absurd rfl c)
set_option maxHeartbeats 1000000 in
set_option maxRecDepth 20000 in
theorem law_c26 {E : pmE} {C : pmC} (G : pm_G E C RL code 4 2001 600000 7302250) {b L : Nat} {xs : Nat → Int32} (hX : va_X b L xs C.s C.s.heap) (hbl : b < C.s.heap.size) (hE : E.2.1 = C.s.heap.size) {i : Nat} {u : Int32} (hu : u.toInt = (i : Int)) (hi : i + 6 ≤ L) (hL : L ≤ 3072) {S : pmS} {I : pmI} {P : pmP} (h : LW S I P) (next : ∀ S I P, LW S I P → pmZ E C 1173 [some (.ref b), some (rr E 0), some (rr E 660), some (.int u)] [] S I P 676 8217) : pmZ E C 936 [some (.ref b), some (rr E 0), some (rr E 660), some (.int u)] [] S I P 676 8217 := by
  refine z_aload_n G dL_law_936 rfl ?_
  refine z_aload_x G dL_law_937 rfl ?_
  refine z_iload_n G dL_law_938 rfl ?_
  refine z_iconst G (v := 1) dL_law_939 (by decide) ?_
  refine z_iadd G dL_law_940 ?_
  refine z_sld G hX hbl hE (i + 1) dL_law_941 (by simp (disch := omega) only [iN_lit, iN_add, iN_sub, iN_mul, iN_an, iN_of hu]; exact iN_ti2 (by omega) (by omega)) (by omega) ?_
  refine z_aload_x G dL_law_942 rfl ?_
  refine z_iload_n G dL_law_943 rfl ?_
  refine z_iconst G (v := 2) dL_law_944 (by decide) ?_
  refine z_iadd G dL_law_945 ?_
  refine z_sld G hX hbl hE (i + 2) dL_law_946 (by simp (disch := omega) only [iN_lit, iN_add, iN_sub, iN_mul, iN_an, iN_of hu]; exact iN_ti2 (by omega) (by omega)) (by omega) ?_
  refine z_aload_x G dL_law_947 rfl ?_
  refine z_iload_n G dL_law_948 rfl ?_
  refine z_iconst G (v := 3) dL_law_949 (by decide) ?_
  refine z_iadd G dL_law_950 ?_
  refine z_sld G hX hbl hE (i + 3) dL_law_951 (by simp (disch := omega) only [iN_lit, iN_add, iN_sub, iN_mul, iN_an, iN_of hu]; exact iN_ti2 (by omega) (by omega)) (by omega) ?_
  refine z_V G lk_L_122 dL_law_952 [_, _, _] rfl rfl rfl (Nat.le_of_ble_eq_true rfl) ⟨(Nat.le_of_ble_eq_true rfl), (Nat.le_of_ble_eq_true rfl)⟩ h.2.1.1.1 (pmX.mono (st_drawn h _ _ _) (fun v1 S1 I1 P1 z => ?_))
  obtain ⟨x, rfl, ho, hm⟩ := z
  refine z_aload_n G dL_law_955 rfl ?_
  refine z_aload_x G dL_law_956 rfl ?_
  refine z_iload_n G dL_law_957 rfl ?_
  refine z_iconst G (v := 1) dL_law_958 (by decide) ?_
  refine z_iadd G dL_law_959 ?_
  refine z_sld G hX hbl hE (i + 1) dL_law_960 (by simp (disch := omega) only [iN_lit, iN_add, iN_sub, iN_mul, iN_an, iN_of hu]; exact iN_ti2 (by omega) (by omega)) (by omega) ?_
  refine z_aload_x G dL_law_961 rfl ?_
  refine z_iload_n G dL_law_962 rfl ?_
  refine z_iconst G (v := 2) dL_law_963 (by decide) ?_
  refine z_iadd G dL_law_964 ?_
  refine z_sld G hX hbl hE (i + 2) dL_law_965 (by simp (disch := omega) only [iN_lit, iN_add, iN_sub, iN_mul, iN_an, iN_of hu]; exact iN_ti2 (by omega) (by omega)) (by omega) ?_
  refine z_aload_x G dL_law_966 rfl ?_
  refine z_iload_n G dL_law_967 rfl ?_
  refine z_iconst G (v := 3) dL_law_968 (by decide) ?_
  refine z_iadd G dL_law_969 ?_
  refine z_sld G hX hbl hE (i + 3) dL_law_970 (by simp (disch := omega) only [iN_lit, iN_add, iN_sub, iN_mul, iN_an, iN_of hu]; exact iN_ti2 (by omega) (by omega)) (by omega) ?_
  refine z_V G lk_L_125 dL_law_971 [_, _, _] rfl rfl rfl (Nat.le_of_ble_eq_true rfl) ⟨(Nat.le_of_ble_eq_true rfl), (Nat.le_of_ble_eq_true rfl)⟩ ho (pmX.mono hm (fun v2 S2 I2 P2 z => ?_))
  obtain ⟨rfl, h2⟩ := z
  exact z_icmp_eq G 1173 dL_law_974 (by decide) (fun _ => next S2 I2 P2 h2) (fun c => absurd rfl c)
set_option maxHeartbeats 1000000 in
set_option maxRecDepth 20000 in
theorem law_c27 {E : pmE} {C : pmC} (G : pm_G E C RL code 4 2001 600000 7302250) {b L : Nat} {xs : Nat → Int32} (hX : va_X b L xs C.s C.s.heap) (hbl : b < C.s.heap.size) (hE : E.2.1 = C.s.heap.size) {i : Nat} {u : Int32} (hu : u.toInt = (i : Int)) (hi : i + 6 ≤ L) (hL : L ≤ 3072) {S : pmS} {I : pmI} {P : pmP} (h : LW S I P) (next : ∀ S I P, LW S I P → pmZ E C 1173 [some (.ref b), some (rr E 0), some (rr E 660), some (.int u)] [] S I P 676 8217) : pmZ E C 979 [some (.ref b), some (rr E 0), some (rr E 660), some (.int u)] [] S I P 676 8217 := by
  refine z_aload_n G dL_law_979 rfl ?_
  refine z_aload_x G dL_law_980 rfl ?_
  refine z_iload_n G dL_law_981 rfl ?_
  refine z_iconst G (v := 1) dL_law_982 (by decide) ?_
  refine z_iadd G dL_law_983 ?_
  refine z_sld G hX hbl hE (i + 1) dL_law_984 (by simp (disch := omega) only [iN_lit, iN_add, iN_sub, iN_mul, iN_an, iN_of hu]; exact iN_ti2 (by omega) (by omega)) (by omega) ?_
  refine z_V G lk_L_126 dL_law_985 [_] rfl rfl rfl (Nat.le_of_ble_eq_true rfl) ⟨(Nat.le_of_ble_eq_true rfl), (Nat.le_of_ble_eq_true rfl)⟩ h.2.1.1.1 (pmX.mono (st_image h _) (fun v1 S1 I1 P1 z => ?_))
  obtain ⟨x, rfl, ho, hm⟩ := z
  refine z_aload_n G dL_law_988 rfl ?_
  refine z_aload_x G dL_law_989 rfl ?_
  refine z_iload_n G dL_law_990 rfl ?_
  refine z_iconst G (v := 1) dL_law_991 (by decide) ?_
  refine z_iadd G dL_law_992 ?_
  refine z_sld G hX hbl hE (i + 1) dL_law_993 (by simp (disch := omega) only [iN_lit, iN_add, iN_sub, iN_mul, iN_an, iN_of hu]; exact iN_ti2 (by omega) (by omega)) (by omega) ?_
  refine z_V G lk_L_129 dL_law_994 [_] rfl rfl rfl (Nat.le_of_ble_eq_true rfl) ⟨(Nat.le_of_ble_eq_true rfl), (Nat.le_of_ble_eq_true rfl)⟩ ho (pmX.mono hm (fun v2 S2 I2 P2 z => ?_))
  obtain ⟨rfl, h2⟩ := z
  exact z_icmp_eq G 1173 dL_law_997 (by decide) (fun _ => next S2 I2 P2 h2) (fun c => absurd rfl c)
set_option maxHeartbeats 1000000 in
set_option maxRecDepth 20000 in
theorem law_c28 {E : pmE} {C : pmC} (G : pm_G E C RL code 4 2001 600000 7302250) {b L : Nat} {xs : Nat → Int32} (hX : va_X b L xs C.s C.s.heap) (hbl : b < C.s.heap.size) (hE : E.2.1 = C.s.heap.size) {i : Nat} {u : Int32} (hu : u.toInt = (i : Int)) (hi : i + 6 ≤ L) (hL : L ≤ 3072) {S : pmS} {I : pmI} {P : pmP} (h : LW S I P) (next : ∀ S I P, LW S I P → pmZ E C 1173 [some (.ref b), some (rr E 0), some (rr E 660), some (.int u)] [] S I P 676 8217) : pmZ E C 1002 [some (.ref b), some (rr E 0), some (rr E 660), some (.int u)] [] S I P 676 8217 := by
  refine z_aload_n G dL_law_1002 rfl ?_
  refine z_aload_x G dL_law_1003 rfl ?_
  refine z_iload_n G dL_law_1004 rfl ?_
  refine z_iconst G (v := 1) dL_law_1005 (by decide) ?_
  refine z_iadd G dL_law_1006 ?_
  refine z_sld G hX hbl hE (i + 1) dL_law_1007 (by simp (disch := omega) only [iN_lit, iN_add, iN_sub, iN_mul, iN_an, iN_of hu]; exact iN_ti2 (by omega) (by omega)) (by omega) ?_
  refine z_V G lk_L_130 dL_law_1008 [_] rfl rfl rfl (Nat.le_of_ble_eq_true rfl) ⟨(Nat.le_of_ble_eq_true rfl), (Nat.le_of_ble_eq_true rfl)⟩ h.2.1.1.1 (pmX.mono (st_restore h _) (fun v1 S1 I1 P1 z => ?_))
  obtain ⟨x, rfl, ho, hm⟩ := z
  refine z_aload_n G dL_law_1011 rfl ?_
  refine z_aload_x G dL_law_1012 rfl ?_
  refine z_iload_n G dL_law_1013 rfl ?_
  refine z_iconst G (v := 1) dL_law_1014 (by decide) ?_
  refine z_iadd G dL_law_1015 ?_
  refine z_sld G hX hbl hE (i + 1) dL_law_1016 (by simp (disch := omega) only [iN_lit, iN_add, iN_sub, iN_mul, iN_an, iN_of hu]; exact iN_ti2 (by omega) (by omega)) (by omega) ?_
  refine z_V G lk_L_133 dL_law_1017 [_] rfl rfl rfl (Nat.le_of_ble_eq_true rfl) ⟨(Nat.le_of_ble_eq_true rfl), (Nat.le_of_ble_eq_true rfl)⟩ ho (pmX.mono hm (fun v2 S2 I2 P2 z => ?_))
  obtain ⟨rfl, h2⟩ := z
  exact z_icmp_eq G 1173 dL_law_1020 (by decide) (fun _ => next S2 I2 P2 h2) (fun c => absurd rfl c)
set_option maxHeartbeats 1000000 in
set_option maxRecDepth 20000 in
theorem law_c29 {E : pmE} {C : pmC} (G : pm_G E C RL code 4 2001 600000 7302250) {b L : Nat} {xs : Nat → Int32} (hX : va_X b L xs C.s C.s.heap) (hbl : b < C.s.heap.size) (hE : E.2.1 = C.s.heap.size) {i : Nat} {u : Int32} (hu : u.toInt = (i : Int)) (hi : i + 6 ≤ L) (hL : L ≤ 3072) {S : pmS} {I : pmI} {P : pmP} (h : LW S I P) (next : ∀ S I P, LW S I P → pmZ E C 1173 [some (.ref b), some (rr E 0), some (rr E 660), some (.int u)] [] S I P 676 8217) : pmZ E C 1025 [some (.ref b), some (rr E 0), some (rr E 660), some (.int u)] [] S I P 676 8217 := by
  refine z_aload_n G dL_law_1025 rfl ?_
  refine z_aload_x G dL_law_1026 rfl ?_
  refine z_iload_n G dL_law_1027 rfl ?_
  refine z_iconst G (v := 1) dL_law_1028 (by decide) ?_
  refine z_iadd G dL_law_1029 ?_
  refine z_sld G hX hbl hE (i + 1) dL_law_1030 (by simp (disch := omega) only [iN_lit, iN_add, iN_sub, iN_mul, iN_an, iN_of hu]; exact iN_ti2 (by omega) (by omega)) (by omega) ?_
  refine z_V G lk_L_134 dL_law_1031 [_] rfl rfl rfl (Nat.le_of_ble_eq_true rfl) ⟨(Nat.le_of_ble_eq_true rfl), (Nat.le_of_ble_eq_true rfl)⟩ h.2.1.1.1 (pmX.mono (st_kind h _) (fun v1 S1 I1 P1 z => ?_))
  obtain ⟨x, rfl, ho, hm⟩ := z
  refine z_aload_n G dL_law_1034 rfl ?_
  refine z_aload_x G dL_law_1035 rfl ?_
  refine z_iload_n G dL_law_1036 rfl ?_
  refine z_iconst G (v := 1) dL_law_1037 (by decide) ?_
  refine z_iadd G dL_law_1038 ?_
  refine z_sld G hX hbl hE (i + 1) dL_law_1039 (by simp (disch := omega) only [iN_lit, iN_add, iN_sub, iN_mul, iN_an, iN_of hu]; exact iN_ti2 (by omega) (by omega)) (by omega) ?_
  refine z_V G lk_L_137 dL_law_1040 [_] rfl rfl rfl (Nat.le_of_ble_eq_true rfl) ⟨(Nat.le_of_ble_eq_true rfl), (Nat.le_of_ble_eq_true rfl)⟩ ho (pmX.mono hm (fun v2 S2 I2 P2 z => ?_))
  obtain ⟨rfl, h2⟩ := z
  exact z_icmp_eq G 1173 dL_law_1043 (by decide) (fun _ => next S2 I2 P2 h2) (fun c => absurd rfl c)
set_option maxHeartbeats 1000000 in
set_option maxRecDepth 20000 in
theorem law_c30 {E : pmE} {C : pmC} (G : pm_G E C RL code 4 2001 600000 7302250) {b L : Nat} {xs : Nat → Int32} (hX : va_X b L xs C.s C.s.heap) (hbl : b < C.s.heap.size) (hE : E.2.1 = C.s.heap.size) {i : Nat} {u : Int32} (hu : u.toInt = (i : Int)) (hi : i + 6 ≤ L) (hL : L ≤ 3072) {S : pmS} {I : pmI} {P : pmP} (h : LW S I P) (next : ∀ S I P, LW S I P → pmZ E C 1173 [some (.ref b), some (rr E 0), some (rr E 660), some (.int u)] [] S I P 676 8217) : pmZ E C 1048 [some (.ref b), some (rr E 0), some (rr E 660), some (.int u)] [] S I P 676 8217 := by
  refine z_aload_n G dL_law_1048 rfl ?_
  refine z_aload_x G dL_law_1049 rfl ?_
  refine z_iload_n G dL_law_1050 rfl ?_
  refine z_iconst G (v := 1) dL_law_1051 (by decide) ?_
  refine z_iadd G dL_law_1052 ?_
  refine z_sld G hX hbl hE (i + 1) dL_law_1053 (by simp (disch := omega) only [iN_lit, iN_add, iN_sub, iN_mul, iN_an, iN_of hu]; exact iN_ti2 (by omega) (by omega)) (by omega) ?_
  refine z_aload_x G dL_law_1054 rfl ?_
  refine z_iload_n G dL_law_1055 rfl ?_
  refine z_iconst G (v := 2) dL_law_1056 (by decide) ?_
  refine z_iadd G dL_law_1057 ?_
  refine z_sld G hX hbl hE (i + 2) dL_law_1058 (by simp (disch := omega) only [iN_lit, iN_add, iN_sub, iN_mul, iN_an, iN_of hu]; exact iN_ti2 (by omega) (by omega)) (by omega) ?_
  refine z_V G lk_L_138 dL_law_1059 [_, _] rfl rfl rfl (Nat.le_of_ble_eq_true rfl) ⟨(Nat.le_of_ble_eq_true rfl), (Nat.le_of_ble_eq_true rfl)⟩ h.2.1.1.1 (pmX.mono (st_as h _ _) (fun v1 S1 I1 P1 z => ?_))
  obtain ⟨x, rfl, ho, hm⟩ := z
  refine z_aload_n G dL_law_1062 rfl ?_
  refine z_aload_x G dL_law_1063 rfl ?_
  refine z_iload_n G dL_law_1064 rfl ?_
  refine z_iconst G (v := 1) dL_law_1065 (by decide) ?_
  refine z_iadd G dL_law_1066 ?_
  refine z_sld G hX hbl hE (i + 1) dL_law_1067 (by simp (disch := omega) only [iN_lit, iN_add, iN_sub, iN_mul, iN_an, iN_of hu]; exact iN_ti2 (by omega) (by omega)) (by omega) ?_
  refine z_aload_x G dL_law_1068 rfl ?_
  refine z_iload_n G dL_law_1069 rfl ?_
  refine z_iconst G (v := 2) dL_law_1070 (by decide) ?_
  refine z_iadd G dL_law_1071 ?_
  refine z_sld G hX hbl hE (i + 2) dL_law_1072 (by simp (disch := omega) only [iN_lit, iN_add, iN_sub, iN_mul, iN_an, iN_of hu]; exact iN_ti2 (by omega) (by omega)) (by omega) ?_
  refine z_V G lk_L_141 dL_law_1073 [_, _] rfl rfl rfl (Nat.le_of_ble_eq_true rfl) ⟨(Nat.le_of_ble_eq_true rfl), (Nat.le_of_ble_eq_true rfl)⟩ ho (pmX.mono hm (fun v2 S2 I2 P2 z => ?_))
  obtain ⟨rfl, h2⟩ := z
  exact z_icmp_eq G 1173 dL_law_1076 (by decide) (fun _ => next S2 I2 P2 h2) (fun c => absurd rfl c)
set_option maxHeartbeats 1000000 in
set_option maxRecDepth 20000 in
theorem law_c31 {E : pmE} {C : pmC} (G : pm_G E C RL code 4 2001 600000 7302250) {b L : Nat} {xs : Nat → Int32} (hX : va_X b L xs C.s C.s.heap) (hbl : b < C.s.heap.size) (hE : E.2.1 = C.s.heap.size) {i : Nat} {u : Int32} (hu : u.toInt = (i : Int)) (hi : i + 6 ≤ L) (hL : L ≤ 3072) {S : pmS} {I : pmI} {P : pmP} (h : LW S I P) (next : ∀ S I P, LW S I P → pmZ E C 1173 [some (.ref b), some (rr E 0), some (rr E 660), some (.int u)] [] S I P 676 8217) : pmZ E C 1081 [some (.ref b), some (rr E 0), some (rr E 660), some (.int u)] [] S I P 676 8217 := by
  refine z_aload_n G dL_law_1081 rfl ?_
  refine z_aload_x G dL_law_1082 rfl ?_
  refine z_iload_n G dL_law_1083 rfl ?_
  refine z_iconst G (v := 1) dL_law_1084 (by decide) ?_
  refine z_iadd G dL_law_1085 ?_
  refine z_sld G hX hbl hE (i + 1) dL_law_1086 (by simp (disch := omega) only [iN_lit, iN_add, iN_sub, iN_mul, iN_an, iN_of hu]; exact iN_ti2 (by omega) (by omega)) (by omega) ?_
  refine z_aload_x G dL_law_1087 rfl ?_
  refine z_iload_n G dL_law_1088 rfl ?_
  refine z_iconst G (v := 2) dL_law_1089 (by decide) ?_
  refine z_iadd G dL_law_1090 ?_
  refine z_sld G hX hbl hE (i + 2) dL_law_1091 (by simp (disch := omega) only [iN_lit, iN_add, iN_sub, iN_mul, iN_an, iN_of hu]; exact iN_ti2 (by omega) (by omega)) (by omega) ?_
  refine z_V G lk_L_142 dL_law_1092 [_, _] rfl rfl rfl (Nat.le_of_ble_eq_true rfl) ⟨(Nat.le_of_ble_eq_true rfl), (Nat.le_of_ble_eq_true rfl)⟩ h.2.1.1.1 (pmX.mono (st_ask h _ _) (fun v1 S1 I1 P1 z => ?_))
  obtain ⟨x, rfl, ho, hm⟩ := z
  refine z_aload_n G dL_law_1095 rfl ?_
  refine z_aload_x G dL_law_1096 rfl ?_
  refine z_iload_n G dL_law_1097 rfl ?_
  refine z_iconst G (v := 1) dL_law_1098 (by decide) ?_
  refine z_iadd G dL_law_1099 ?_
  refine z_sld G hX hbl hE (i + 1) dL_law_1100 (by simp (disch := omega) only [iN_lit, iN_add, iN_sub, iN_mul, iN_an, iN_of hu]; exact iN_ti2 (by omega) (by omega)) (by omega) ?_
  refine z_aload_x G dL_law_1101 rfl ?_
  refine z_iload_n G dL_law_1102 rfl ?_
  refine z_iconst G (v := 2) dL_law_1103 (by decide) ?_
  refine z_iadd G dL_law_1104 ?_
  refine z_sld G hX hbl hE (i + 2) dL_law_1105 (by simp (disch := omega) only [iN_lit, iN_add, iN_sub, iN_mul, iN_an, iN_of hu]; exact iN_ti2 (by omega) (by omega)) (by omega) ?_
  refine z_V G lk_L_145 dL_law_1106 [_, _] rfl rfl rfl (Nat.le_of_ble_eq_true rfl) ⟨(Nat.le_of_ble_eq_true rfl), (Nat.le_of_ble_eq_true rfl)⟩ ho (pmX.mono hm (fun v2 S2 I2 P2 z => ?_))
  obtain ⟨rfl, h2⟩ := z
  exact z_icmp_eq G 1173 dL_law_1109 (by decide) (fun _ => next S2 I2 P2 h2) (fun c => absurd rfl c)
set_option maxHeartbeats 1000000 in
set_option maxRecDepth 20000 in
theorem law_c32 {E : pmE} {C : pmC} (G : pm_G E C RL code 4 2001 600000 7302250) {b L : Nat} {xs : Nat → Int32} (hX : va_X b L xs C.s C.s.heap) (hbl : b < C.s.heap.size) (hE : E.2.1 = C.s.heap.size) {i : Nat} {u : Int32} (hu : u.toInt = (i : Int)) (hi : i + 6 ≤ L) (hL : L ≤ 3072) {S : pmS} {I : pmI} {P : pmP} (h : LW S I P) (next : ∀ S I P, LW S I P → pmZ E C 1173 [some (.ref b), some (rr E 0), some (rr E 660), some (.int u)] [] S I P 676 8217) : pmZ E C 1114 [some (.ref b), some (rr E 0), some (rr E 660), some (.int u)] [] S I P 676 8217 := by
  refine z_aload_n G dL_law_1114 rfl ?_
  refine z_aload_x G dL_law_1115 rfl ?_
  refine z_iload_n G dL_law_1116 rfl ?_
  refine z_iconst G (v := 1) dL_law_1117 (by decide) ?_
  refine z_iadd G dL_law_1118 ?_
  refine z_sld G hX hbl hE (i + 1) dL_law_1119 (by simp (disch := omega) only [iN_lit, iN_add, iN_sub, iN_mul, iN_an, iN_of hu]; exact iN_ti2 (by omega) (by omega)) (by omega) ?_
  refine z_V G lk_L_146 dL_law_1120 [_] rfl rfl rfl (Nat.le_of_ble_eq_true rfl) ⟨(Nat.le_of_ble_eq_true rfl), (Nat.le_of_ble_eq_true rfl)⟩ h.2.1.1.1 (pmX.mono (st_trace h _) (fun v1 S1 I1 P1 z => ?_))
  obtain ⟨x, rfl, ho, hm⟩ := z
  refine z_aload_n G dL_law_1123 rfl ?_
  refine z_aload_x G dL_law_1124 rfl ?_
  refine z_iload_n G dL_law_1125 rfl ?_
  refine z_iconst G (v := 1) dL_law_1126 (by decide) ?_
  refine z_iadd G dL_law_1127 ?_
  refine z_sld G hX hbl hE (i + 1) dL_law_1128 (by simp (disch := omega) only [iN_lit, iN_add, iN_sub, iN_mul, iN_an, iN_of hu]; exact iN_ti2 (by omega) (by omega)) (by omega) ?_
  refine z_V G lk_L_149 dL_law_1129 [_] rfl rfl rfl (Nat.le_of_ble_eq_true rfl) ⟨(Nat.le_of_ble_eq_true rfl), (Nat.le_of_ble_eq_true rfl)⟩ ho (pmX.mono hm (fun v2 S2 I2 P2 z => ?_))
  obtain ⟨rfl, h2⟩ := z
  exact z_icmp_eq G 1173 dL_law_1132 (by decide) (fun _ => next S2 I2 P2 h2) (fun c => absurd rfl c)
set_option maxHeartbeats 1000000 in
set_option maxRecDepth 20000 in
theorem law_c33 {E : pmE} {C : pmC} (G : pm_G E C RL code 4 2001 600000 7302250) {b L : Nat} {xs : Nat → Int32} (hX : va_X b L xs C.s C.s.heap) (hbl : b < C.s.heap.size) (hE : E.2.1 = C.s.heap.size) {i : Nat} {u : Int32} (hu : u.toInt = (i : Int)) (hi : i + 6 ≤ L) (hL : L ≤ 3072) {S : pmS} {I : pmI} {P : pmP} (h : LW S I P) (next : ∀ S I P, LW S I P → pmZ E C 1173 [some (.ref b), some (rr E 0), some (rr E 660), some (.int u)] [] S I P 676 8217) : pmZ E C 1137 [some (.ref b), some (rr E 0), some (rr E 660), some (.int u)] [] S I P 676 8217 := by
  refine z_aload_n G dL_law_1137 rfl ?_
  refine z_aload_x G dL_law_1138 rfl ?_
  refine z_iload_n G dL_law_1139 rfl ?_
  refine z_iconst G (v := 1) dL_law_1140 (by decide) ?_
  refine z_iadd G dL_law_1141 ?_
  refine z_sld G hX hbl hE (i + 1) dL_law_1142 (by simp (disch := omega) only [iN_lit, iN_add, iN_sub, iN_mul, iN_an, iN_of hu]; exact iN_ti2 (by omega) (by omega)) (by omega) ?_
  refine z_V G lk_L_150 dL_law_1143 [_] rfl rfl rfl (Nat.le_of_ble_eq_true rfl) ⟨(Nat.le_of_ble_eq_true rfl), (Nat.le_of_ble_eq_true rfl)⟩ h.2.1.1.1 (pmX.mono (st_count h _) (fun v1 S1 I1 P1 z => ?_))
  obtain ⟨x, rfl, ho, hm⟩ := z
  refine z_aload_n G dL_law_1146 rfl ?_
  refine z_aload_x G dL_law_1147 rfl ?_
  refine z_iload_n G dL_law_1148 rfl ?_
  refine z_iconst G (v := 1) dL_law_1149 (by decide) ?_
  refine z_iadd G dL_law_1150 ?_
  refine z_sld G hX hbl hE (i + 1) dL_law_1151 (by simp (disch := omega) only [iN_lit, iN_add, iN_sub, iN_mul, iN_an, iN_of hu]; exact iN_ti2 (by omega) (by omega)) (by omega) ?_
  refine z_V G lk_L_153 dL_law_1152 [_] rfl rfl rfl (Nat.le_of_ble_eq_true rfl) ⟨(Nat.le_of_ble_eq_true rfl), (Nat.le_of_ble_eq_true rfl)⟩ ho (pmX.mono hm (fun v2 S2 I2 P2 z => ?_))
  obtain ⟨rfl, h2⟩ := z
  exact z_icmp_eq G 1173 dL_law_1155 (by decide) (fun _ => next S2 I2 P2 h2) (fun c => absurd rfl c)
set_option maxHeartbeats 1000000 in
set_option maxRecDepth 20000 in
theorem law_c34 {E : pmE} {C : pmC} (G : pm_G E C RL code 4 2001 600000 7302250) {b L : Nat} {xs : Nat → Int32} (hX : va_X b L xs C.s C.s.heap) (hbl : b < C.s.heap.size) (hE : E.2.1 = C.s.heap.size) {i : Nat} {u : Int32} (hu : u.toInt = (i : Int)) (hi : i + 6 ≤ L) (hL : L ≤ 3072) {S : pmS} {I : pmI} {P : pmP} (h : LW S I P) (next : ∀ S I P, LW S I P → pmZ E C 1173 [some (.ref b), some (rr E 0), some (rr E 660), some (.int u)] [] S I P 676 8217) : pmZ E C 1160 [some (.ref b), some (rr E 0), some (rr E 660), some (.int u)] [] S I P 676 8217 := by
  refine z_aload_n G dL_law_1160 rfl ?_
  refine z_V G lk_L_154 dL_law_1161 [] rfl rfl rfl (Nat.le_of_ble_eq_true rfl) ⟨(Nat.le_of_ble_eq_true rfl), (Nat.le_of_ble_eq_true rfl)⟩ h.2.1.1.1 (pmX.mono (st_status h) (fun v1 S1 I1 P1 z => ?_))
  obtain ⟨x, rfl, ho, hm⟩ := z
  refine z_aload_n G dL_law_1164 rfl ?_
  refine z_V G lk_L_157 dL_law_1165 [] rfl rfl rfl (Nat.le_of_ble_eq_true rfl) ⟨(Nat.le_of_ble_eq_true rfl), (Nat.le_of_ble_eq_true rfl)⟩ ho (pmX.mono hm (fun v2 S2 I2 P2 z => ?_))
  obtain ⟨rfl, h2⟩ := z
  exact z_icmp_eq G 1173 dL_law_1168 (by decide) (fun _ => next S2 I2 P2 h2) (fun c => absurd rfl c)
