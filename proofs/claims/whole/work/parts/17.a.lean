/-! THE LAW: its script, and its cases -/
theorem lg_same {x y : Int64} (h : x = y) : lg_cmp x y = 0 := by
  subst h
  simp [lg_cmp]
section CSL
variable {p : Program} {l : Launch} {e : Env} {R : Room} {s : State} {m : MethodId} {args : Array Value} {below : List Frame} {meth : Method} {cd : Code} {H : Heap} {locs : List Loc} {cells slots : Nat} {Q : State → Prop} {pc : Nat} {ls : Array Slot} {rest : List Value}
theorem cSL {post : Int64 → Prop} {a : Array Value} {st0 : List Value} (hr : va_Run p l e R s m args below meth cd H locs cells slots 0 0 (F0 m pc ls st0) rest (vp_Sl post a) (fun _ => False)) (kk : ∀ r : Int64, post r → W p l e R s m args below meth cd H locs cells slots Q (F0 m (pc + 3) ls (.long r :: rest))) : W p l e R s m args below meth cd H locs cells slots Q (F0 m pc ls st0) := vp_callSl hr.run kk
end CSL
section LD
variable {p : Program} {l : Launch} {e : Env} {s : State} {m : MethodId} {below : List Frame} {meth : Method} {cd : Code} {b L : Nat} {xs : Nat → Int32} {G : GT} {Q : State → Prop} {c : Nat → va_E} {H : Heap} {locs : List Loc} {ls : Array Slot} {i : Nat}
theorem ld5 {k : Int32} {kz : Int} {kn pc : Nat} {rest : List Value} (hx : p.tables.exec = Jvm.exec) (hb : cd.code = code) (hX : va_X b L xs s s.heap) (hbl : b < s.heap.size) (hbA : ¬ gA G b) (hS : va_S (gA G) s.heap H locs) (hi : i + 6 ≤ L) (hL : L ≤ 3072) (hl : lv_has ls 4 [(0, .ref b), (1, .ref (gad G 0)), (2, .ref (gad G 32)), (3, .int (nI i))]) (hk : k = nI kn) (hk6 : kn < 6) (hkz : Int32.ofInt kz = k)
    (d0 : decode code pc = .ok (.aload_n 0, 1)) (d1 : decode code (pc + 1) = .ok (.iload_n 3, 1)) (d2 : decode code (pc + 1 + 1) = .ok (.iconst kz, 1)) (d3 : decode code (pc + 1 + 1 + 1) = .ok (.iadd, 1)) (d4 : decode code (pc + 1 + 1 + 1 + 1) = .ok (.iaload, 1))
    (kk : W p l e room_1 s m #[Value.ref b] below meth cd H locs 45 2483 Q (F0 m (pc + 5) ls (.int (xs (i + kn)) :: rest))) : W p l e room_1 s m #[Value.ref b] below meth cd H locs 45 2483 Q (F0 m pc ls rest) := by
  refine lv_aload_n hx hb d0 rfl (lv_at hl 0 rfl) ?_
  refine lv_iload_n hx hb d1 rfl (lv_at hl 3 rfl) ?_
  refine lv_iconst (v := k) hx hb d2 hkz ?_
  refine lv_iadd hx hb d3 ?_
  rw [hk, nI_add]
  refine va_sld hx hb hX hbl hbA hS (vp_in_nI (by omega) (by omega)) d4 ?_
  rw [nI_clamp (by omega)]
  exact kk
end LD
section LC
variable {p : Program} {l : Launch} {e : Env} {s : State} {m : MethodId} {below : List Frame} {meth : Method} {cd : Code} {b L : Nat} {xs : Nat → Int32} {G : GT} {Q : State → Prop} {c : Nat → va_E} {H : Heap} {locs : List Loc} {ls : Array Slot} {i : Nat}
set_option maxHeartbeats 4000000 in
set_option maxRecDepth 100000 in
theorem lc_0 (hx : p.tables.exec = Jvm.exec) (hb : cd.code = code) (hml : cd.maxLocals = 4) (hown : s.vm.findClass RL = some m.cls) (hts : ∀ w ∈ WT, w.before #[Value.ref b] s = true) (hX : va_X b L xs s s.heap) (hbl : b < s.heap.size) (hbA : ¬ gA G b) (hi : i + 6 ≤ L) (hL : L ≤ 3072) (hJ : JJ G c) (hw : Hw G c s H) (hS : va_S (gA G) s.heap H locs) (hl : lv_has ls 4 [(0, .ref b), (1, .ref (gad G 0)), (2, .ref (gad G 32)), (3, .int (nI i))]) (K : ∀ (c1 : Nat → va_E) (H1 : Heap) (locs1 : List Loc), JJ G c1 → Hw G c1 s H1 → va_S (gA G) s.heap H1 locs1 → W p l e room_1 s m #[Value.ref b] below meth cd H1 locs1 45 2483 Q (F0 m 1630 ls [])) : W p l e room_1 s m #[Value.ref b] below meth cd H locs 45 2483 Q (F0 m 208 ls []) := by
  obtain ⟨im, iz, z, n, n1, n2, rn, qn, tn, f, f1, f2, rf, rt, qf, qt, tf, ss, sz, sg, si, it, lw, cl, kn, kk, ks, kv, m0, g, hd, sd, fr, tto, tk, wo, hA, hB, hP⟩ := hJ
  refine lv_aload_n hx hb dL_208 rfl (lv_at hl 1 rfl) ?_
  refine cQi (rV (As := []) ⟨hx, hb, hml, hown, hts⟩ hw (k_X10_clause l (hA.1) (hA.2.1) (hA.2.2.1) (hP.1)) (cv_X10_clause hts tw_189 rfl rfl ⟨Nat.le_of_ble_eq_true rfl, Nat.le_of_ble_eq_true rfl⟩) (by decide) (hA.1) rfl rfl hl.1 rfl (by first | exact Nat.le_of_ble_eq_true rfl | decide) dL_209 ⟨Nat.le_of_ble_eq_true rfl, Nat.le_of_ble_eq_true rfl⟩) hw hS (fun r1 c1 H locs p1 hw hS => ?_)
  have frm := jf_clause hA hB hP p1
  refine lv_aload_n hx hb dL_212 rfl (lv_at hl 2 rfl) ?_
  refine cQi (rV (As := []) ⟨hx, hb, hml, hown, hts⟩ hw (k_X11_clause l ((frm 32 (by decide)).trans (hB.1)) ((frm 33 (by decide)).trans (hB.2.1)) (hP.1)) (cv_X11_clause hts tw_967 rfl rfl ⟨Nat.le_of_ble_eq_true rfl, Nat.le_of_ble_eq_true rfl⟩) (by decide) ((frm 32 (by decide)).trans (hB.1)) rfl rfl hl.1 rfl (by first | exact Nat.le_of_ble_eq_true rfl | decide) dL_213 ⟨Nat.le_of_ble_eq_true rfl, Nat.le_of_ble_eq_true rfl⟩) hw hS (fun r2 c2 H locs p2 hw hS => ?_)
  have jc := jc_clause hA hB hP p1 p2
  refine lv_icmp_eq (tgt := 1630) hx hb dL_216 (by decide) (fun _ => ?_) (fun q => absurd (jc.1) q)
  exact K _ _ _ (jc.2) hw hS
set_option maxHeartbeats 4000000 in
set_option maxRecDepth 100000 in
theorem lc_1 (hx : p.tables.exec = Jvm.exec) (hb : cd.code = code) (hml : cd.maxLocals = 4) (hown : s.vm.findClass RL = some m.cls) (hts : ∀ w ∈ WT, w.before #[Value.ref b] s = true) (hX : va_X b L xs s s.heap) (hbl : b < s.heap.size) (hbA : ¬ gA G b) (hi : i + 6 ≤ L) (hL : L ≤ 3072) (hJ : JJ G c) (hw : Hw G c s H) (hS : va_S (gA G) s.heap H locs) (hl : lv_has ls 4 [(0, .ref b), (1, .ref (gad G 0)), (2, .ref (gad G 32)), (3, .int (nI i))]) (K : ∀ (c1 : Nat → va_E) (H1 : Heap) (locs1 : List Loc), JJ G c1 → Hw G c1 s H1 → va_S (gA G) s.heap H1 locs1 → W p l e room_1 s m #[Value.ref b] below meth cd H1 locs1 45 2483 Q (F0 m 1630 ls [])) : W p l e room_1 s m #[Value.ref b] below meth cd H locs 45 2483 Q (F0 m 221 ls []) := by
  obtain ⟨im, iz, z, n, n1, n2, rn, qn, tn, f, f1, f2, rf, rt, qf, qt, tf, ss, sz, sg, si, it, lw, cl, kn, kk, ks, kv, m0, g, hd, sd, fr, tto, tk, wo, hA, hB, hP⟩ := hJ
  refine lv_aload_n hx hb dL_221 rfl (lv_at hl 1 rfl) ?_
  refine ld5 (k := 1) (kn := 1) hx hb hX hbl hbA hS hi hL hl rfl (by decide) (by decide) dL_222 dL_223 dL_224 dL_225 dL_226 ?_
  refine ld5 (k := 2) (kn := 2) hx hb hX hbl hbA hS hi hL hl rfl (by decide) (by decide) dL_227 dL_228 dL_229 dL_230 dL_231 ?_
  refine ld5 (k := 3) (kn := 3) hx hb hX hbl hbA hS hi hL hl rfl (by decide) (by decide) dL_232 dL_233 dL_234 dL_235 dL_236 ?_
  refine ld5 (k := 4) (kn := 4) hx hb hX hbl hbA hS hi hL hl rfl (by decide) (by decide) dL_237 dL_238 dL_239 dL_240 dL_241 ?_
  refine ld5 (k := 5) (kn := 5) hx hb hX hbl hbA hS hi hL hl rfl (by decide) (by decide) dL_242 dL_243 dL_244 dL_245 dL_246 ?_
  refine cQi (rV (As := [_, _, _, _, _]) ⟨hx, hb, hml, hown, hts⟩ hw (k_X10_test l (hA.1) (hA.2.1) (hA.2.2.1) (hP.1)) (cv_X10_test hts tw_201 rfl rfl ⟨Nat.le_of_ble_eq_true rfl, Nat.le_of_ble_eq_true rfl⟩) (by decide) (hA.1) rfl rfl hl.1 rfl (by first | exact Nat.le_of_ble_eq_true rfl | decide) dL_247 ⟨Nat.le_of_ble_eq_true rfl, Nat.le_of_ble_eq_true rfl⟩) hw hS (fun r1 c1 H locs p1 hw hS => ?_)
  have frm := jf_test hA hB hP p1
  refine lv_aload_n hx hb dL_250 rfl (lv_at hl 2 rfl) ?_
  refine ld5 (k := 1) (kn := 1) hx hb hX hbl hbA hS hi hL hl rfl (by decide) (by decide) dL_251 dL_252 dL_253 dL_254 dL_255 ?_
  refine ld5 (k := 2) (kn := 2) hx hb hX hbl hbA hS hi hL hl rfl (by decide) (by decide) dL_256 dL_257 dL_258 dL_259 dL_260 ?_
  refine ld5 (k := 3) (kn := 3) hx hb hX hbl hbA hS hi hL hl rfl (by decide) (by decide) dL_261 dL_262 dL_263 dL_264 dL_265 ?_
  refine ld5 (k := 4) (kn := 4) hx hb hX hbl hbA hS hi hL hl rfl (by decide) (by decide) dL_266 dL_267 dL_268 dL_269 dL_270 ?_
  refine ld5 (k := 5) (kn := 5) hx hb hX hbl hbA hS hi hL hl rfl (by decide) (by decide) dL_271 dL_272 dL_273 dL_274 dL_275 ?_
  refine cQi (rV (As := [_, _, _, _, _]) ⟨hx, hb, hml, hown, hts⟩ hw (k_X11_test l ((frm 32 (by decide)).trans (hB.1)) ((frm 33 (by decide)).trans (hB.2.1)) (hP.1)) (cv_X11_test hts tw_979 rfl rfl ⟨Nat.le_of_ble_eq_true rfl, Nat.le_of_ble_eq_true rfl⟩) (by decide) ((frm 32 (by decide)).trans (hB.1)) rfl rfl hl.1 rfl (by first | exact Nat.le_of_ble_eq_true rfl | decide) dL_276 ⟨Nat.le_of_ble_eq_true rfl, Nat.le_of_ble_eq_true rfl⟩) hw hS (fun r2 c2 H locs p2 hw hS => ?_)
  have jc := jc_test hA hB hP p1 p2
  refine lv_icmp_eq (tgt := 1630) hx hb dL_279 (by decide) (fun _ => ?_) (fun q => absurd (jc.1) q)
  exact K _ _ _ (jc.2) hw hS
set_option maxHeartbeats 4000000 in
set_option maxRecDepth 100000 in
theorem lc_2 (hx : p.tables.exec = Jvm.exec) (hb : cd.code = code) (hml : cd.maxLocals = 4) (hown : s.vm.findClass RL = some m.cls) (hts : ∀ w ∈ WT, w.before #[Value.ref b] s = true) (hX : va_X b L xs s s.heap) (hbl : b < s.heap.size) (hbA : ¬ gA G b) (hi : i + 6 ≤ L) (hL : L ≤ 3072) (hJ : JJ G c) (hw : Hw G c s H) (hS : va_S (gA G) s.heap H locs) (hl : lv_has ls 4 [(0, .ref b), (1, .ref (gad G 0)), (2, .ref (gad G 32)), (3, .int (nI i))]) (K : ∀ (c1 : Nat → va_E) (H1 : Heap) (locs1 : List Loc), JJ G c1 → Hw G c1 s H1 → va_S (gA G) s.heap H1 locs1 → W p l e room_1 s m #[Value.ref b] below meth cd H1 locs1 45 2483 Q (F0 m 1630 ls [])) : W p l e room_1 s m #[Value.ref b] below meth cd H locs 45 2483 Q (F0 m 284 ls []) := by
  obtain ⟨im, iz, z, n, n1, n2, rn, qn, tn, f, f1, f2, rf, rt, qf, qt, tf, ss, sz, sg, si, it, lw, cl, kn, kk, ks, kv, m0, g, hd, sd, fr, tto, tk, wo, hA, hB, hP⟩ := hJ
  refine lv_aload_n hx hb dL_284 rfl (lv_at hl 1 rfl) ?_
  refine ld5 (k := 1) (kn := 1) hx hb hX hbl hbA hS hi hL hl rfl (by decide) (by decide) dL_285 dL_286 dL_287 dL_288 dL_289 ?_
  refine ld5 (k := 2) (kn := 2) hx hb hX hbl hbA hS hi hL hl rfl (by decide) (by decide) dL_290 dL_291 dL_292 dL_293 dL_294 ?_
  refine ld5 (k := 3) (kn := 3) hx hb hX hbl hbA hS hi hL hl rfl (by decide) (by decide) dL_295 dL_296 dL_297 dL_298 dL_299 ?_
  refine ld5 (k := 4) (kn := 4) hx hb hX hbl hbA hS hi hL hl rfl (by decide) (by decide) dL_300 dL_301 dL_302 dL_303 dL_304 ?_
  refine ld5 (k := 5) (kn := 5) hx hb hX hbl hbA hS hi hL hl rfl (by decide) (by decide) dL_305 dL_306 dL_307 dL_308 dL_309 ?_
  refine cQi (rV (As := [_, _, _, _, _]) ⟨hx, hb, hml, hown, hts⟩ hw (k_X10_grant l (hA.1) (hA.2.1) (hA.2.2.1) (hP.1)) (cv_X10_grant hts tw_220 rfl rfl ⟨Nat.le_of_ble_eq_true rfl, Nat.le_of_ble_eq_true rfl⟩) (by decide) (hA.1) rfl rfl hl.1 rfl (by first | exact Nat.le_of_ble_eq_true rfl | decide) dL_310 ⟨Nat.le_of_ble_eq_true rfl, Nat.le_of_ble_eq_true rfl⟩) hw hS (fun r1 c1 H locs p1 hw hS => ?_)
  have frm := jf_grant hA hB hP p1
  refine lv_aload_n hx hb dL_313 rfl (lv_at hl 2 rfl) ?_
  refine ld5 (k := 1) (kn := 1) hx hb hX hbl hbA hS hi hL hl rfl (by decide) (by decide) dL_314 dL_315 dL_316 dL_317 dL_318 ?_
  refine ld5 (k := 2) (kn := 2) hx hb hX hbl hbA hS hi hL hl rfl (by decide) (by decide) dL_319 dL_320 dL_321 dL_322 dL_323 ?_
  refine ld5 (k := 3) (kn := 3) hx hb hX hbl hbA hS hi hL hl rfl (by decide) (by decide) dL_324 dL_325 dL_326 dL_327 dL_328 ?_
  refine ld5 (k := 4) (kn := 4) hx hb hX hbl hbA hS hi hL hl rfl (by decide) (by decide) dL_329 dL_330 dL_331 dL_332 dL_333 ?_
  refine ld5 (k := 5) (kn := 5) hx hb hX hbl hbA hS hi hL hl rfl (by decide) (by decide) dL_334 dL_335 dL_336 dL_337 dL_338 ?_
  refine cQi (rV (As := [_, _, _, _, _]) ⟨hx, hb, hml, hown, hts⟩ hw (k_X11_grant l ((frm 32 (by decide)).trans (hB.1)) ((frm 33 (by decide)).trans (hB.2.1)) (hP.1)) (cv_X11_grant hts tw_997 rfl rfl ⟨Nat.le_of_ble_eq_true rfl, Nat.le_of_ble_eq_true rfl⟩) (by decide) ((frm 32 (by decide)).trans (hB.1)) rfl rfl hl.1 rfl (by first | exact Nat.le_of_ble_eq_true rfl | decide) dL_339 ⟨Nat.le_of_ble_eq_true rfl, Nat.le_of_ble_eq_true rfl⟩) hw hS (fun r2 c2 H locs p2 hw hS => ?_)
  have jc := jc_grant hA hB hP p1 p2
  refine lv_icmp_eq (tgt := 1630) hx hb dL_342 (by decide) (fun _ => ?_) (fun q => absurd (jc.1) q)
  exact K _ _ _ (jc.2) hw hS
set_option maxHeartbeats 4000000 in
set_option maxRecDepth 100000 in
theorem lc_3 (hx : p.tables.exec = Jvm.exec) (hb : cd.code = code) (hml : cd.maxLocals = 4) (hown : s.vm.findClass RL = some m.cls) (hts : ∀ w ∈ WT, w.before #[Value.ref b] s = true) (hX : va_X b L xs s s.heap) (hbl : b < s.heap.size) (hbA : ¬ gA G b) (hi : i + 6 ≤ L) (hL : L ≤ 3072) (hJ : JJ G c) (hw : Hw G c s H) (hS : va_S (gA G) s.heap H locs) (hl : lv_has ls 4 [(0, .ref b), (1, .ref (gad G 0)), (2, .ref (gad G 32)), (3, .int (nI i))]) (K : ∀ (c1 : Nat → va_E) (H1 : Heap) (locs1 : List Loc), JJ G c1 → Hw G c1 s H1 → va_S (gA G) s.heap H1 locs1 → W p l e room_1 s m #[Value.ref b] below meth cd H1 locs1 45 2483 Q (F0 m 1630 ls [])) : W p l e room_1 s m #[Value.ref b] below meth cd H locs 45 2483 Q (F0 m 347 ls []) := by
  obtain ⟨im, iz, z, n, n1, n2, rn, qn, tn, f, f1, f2, rf, rt, qf, qt, tf, ss, sz, sg, si, it, lw, cl, kn, kk, ks, kv, m0, g, hd, sd, fr, tto, tk, wo, hA, hB, hP⟩ := hJ
  refine lv_aload_n hx hb dL_347 rfl (lv_at hl 1 rfl) ?_
  refine ld5 (k := 1) (kn := 1) hx hb hX hbl hbA hS hi hL hl rfl (by decide) (by decide) dL_348 dL_349 dL_350 dL_351 dL_352 ?_
  refine ld5 (k := 2) (kn := 2) hx hb hX hbl hbA hS hi hL hl rfl (by decide) (by decide) dL_353 dL_354 dL_355 dL_356 dL_357 ?_
  refine ld5 (k := 3) (kn := 3) hx hb hX hbl hbA hS hi hL hl rfl (by decide) (by decide) dL_358 dL_359 dL_360 dL_361 dL_362 ?_
  refine cQi (rV (As := [_, _, _]) ⟨hx, hb, hml, hown, hts⟩ hw (k_X10_span l (hA.1) (hA.2.1) (hA.2.2.1) (hP.1)) (cv_X10_span hts tw_233 rfl rfl ⟨Nat.le_of_ble_eq_true rfl, Nat.le_of_ble_eq_true rfl⟩) (by decide) (hA.1) rfl rfl hl.1 rfl (by first | exact Nat.le_of_ble_eq_true rfl | decide) dL_363 ⟨Nat.le_of_ble_eq_true rfl, Nat.le_of_ble_eq_true rfl⟩) hw hS (fun r1 c1 H locs p1 hw hS => ?_)
  have frm := jf_span hA hB hP p1
  refine lv_aload_n hx hb dL_366 rfl (lv_at hl 2 rfl) ?_
  refine ld5 (k := 1) (kn := 1) hx hb hX hbl hbA hS hi hL hl rfl (by decide) (by decide) dL_367 dL_368 dL_369 dL_370 dL_371 ?_
  refine ld5 (k := 2) (kn := 2) hx hb hX hbl hbA hS hi hL hl rfl (by decide) (by decide) dL_372 dL_373 dL_374 dL_375 dL_376 ?_
  refine ld5 (k := 3) (kn := 3) hx hb hX hbl hbA hS hi hL hl rfl (by decide) (by decide) dL_377 dL_378 dL_379 dL_380 dL_381 ?_
  refine cQi (rV (As := [_, _, _]) ⟨hx, hb, hml, hown, hts⟩ hw (k_X11_span l ((frm 32 (by decide)).trans (hB.1)) ((frm 33 (by decide)).trans (hB.2.1)) (hP.1)) (cv_X11_span hts tw_1004 rfl rfl ⟨Nat.le_of_ble_eq_true rfl, Nat.le_of_ble_eq_true rfl⟩) (by decide) ((frm 32 (by decide)).trans (hB.1)) rfl rfl hl.1 rfl (by first | exact Nat.le_of_ble_eq_true rfl | decide) dL_382 ⟨Nat.le_of_ble_eq_true rfl, Nat.le_of_ble_eq_true rfl⟩) hw hS (fun r2 c2 H locs p2 hw hS => ?_)
  have jc := jc_span hA hB hP p1 p2
  refine lv_icmp_eq (tgt := 1630) hx hb dL_385 (by decide) (fun _ => ?_) (fun q => absurd (jc.1) q)
  exact K _ _ _ (jc.2) hw hS
set_option maxHeartbeats 4000000 in
set_option maxRecDepth 100000 in
theorem lc_4 (hx : p.tables.exec = Jvm.exec) (hb : cd.code = code) (hml : cd.maxLocals = 4) (hown : s.vm.findClass RL = some m.cls) (hts : ∀ w ∈ WT, w.before #[Value.ref b] s = true) (hX : va_X b L xs s s.heap) (hbl : b < s.heap.size) (hbA : ¬ gA G b) (hi : i + 6 ≤ L) (hL : L ≤ 3072) (hJ : JJ G c) (hw : Hw G c s H) (hS : va_S (gA G) s.heap H locs) (hl : lv_has ls 4 [(0, .ref b), (1, .ref (gad G 0)), (2, .ref (gad G 32)), (3, .int (nI i))]) (K : ∀ (c1 : Nat → va_E) (H1 : Heap) (locs1 : List Loc), JJ G c1 → Hw G c1 s H1 → va_S (gA G) s.heap H1 locs1 → W p l e room_1 s m #[Value.ref b] below meth cd H1 locs1 45 2483 Q (F0 m 1630 ls [])) : W p l e room_1 s m #[Value.ref b] below meth cd H locs 45 2483 Q (F0 m 390 ls []) := by
  obtain ⟨im, iz, z, n, n1, n2, rn, qn, tn, f, f1, f2, rf, rt, qf, qt, tf, ss, sz, sg, si, it, lw, cl, kn, kk, ks, kv, m0, g, hd, sd, fr, tto, tk, wo, hA, hB, hP⟩ := hJ
  refine lv_aload_n hx hb dL_390 rfl (lv_at hl 1 rfl) ?_
  refine ld5 (k := 1) (kn := 1) hx hb hX hbl hbA hS hi hL hl rfl (by decide) (by decide) dL_391 dL_392 dL_393 dL_394 dL_395 ?_
  refine ld5 (k := 2) (kn := 2) hx hb hX hbl hbA hS hi hL hl rfl (by decide) (by decide) dL_396 dL_397 dL_398 dL_399 dL_400 ?_
  refine cQi (rV (As := [_, _]) ⟨hx, hb, hml, hown, hts⟩ hw (k_X10_except l (hA.1) (hA.2.1) (hA.2.2.1) (hP.1)) (cv_X10_except hts tw_240 rfl rfl ⟨Nat.le_of_ble_eq_true rfl, Nat.le_of_ble_eq_true rfl⟩) (by decide) (hA.1) rfl rfl hl.1 rfl (by first | exact Nat.le_of_ble_eq_true rfl | decide) dL_401 ⟨Nat.le_of_ble_eq_true rfl, Nat.le_of_ble_eq_true rfl⟩) hw hS (fun r1 c1 H locs p1 hw hS => ?_)
  have frm := jf_except hA hB hP p1
  refine lv_aload_n hx hb dL_404 rfl (lv_at hl 2 rfl) ?_
  refine ld5 (k := 1) (kn := 1) hx hb hX hbl hbA hS hi hL hl rfl (by decide) (by decide) dL_405 dL_406 dL_407 dL_408 dL_409 ?_
  refine ld5 (k := 2) (kn := 2) hx hb hX hbl hbA hS hi hL hl rfl (by decide) (by decide) dL_410 dL_411 dL_412 dL_413 dL_414 ?_
  refine cQi (rV (As := [_, _]) ⟨hx, hb, hml, hown, hts⟩ hw (k_X11_except l ((frm 32 (by decide)).trans (hB.1)) ((frm 33 (by decide)).trans (hB.2.1)) (hP.1)) (cv_X11_except hts tw_1008 rfl rfl ⟨Nat.le_of_ble_eq_true rfl, Nat.le_of_ble_eq_true rfl⟩) (by decide) ((frm 32 (by decide)).trans (hB.1)) rfl rfl hl.1 rfl (by first | exact Nat.le_of_ble_eq_true rfl | decide) dL_415 ⟨Nat.le_of_ble_eq_true rfl, Nat.le_of_ble_eq_true rfl⟩) hw hS (fun r2 c2 H locs p2 hw hS => ?_)
  have jc := jc_except hA hB hP p1 p2
  refine lv_icmp_eq (tgt := 1630) hx hb dL_418 (by decide) (fun _ => ?_) (fun q => absurd (jc.1) q)
  exact K _ _ _ (jc.2) hw hS
set_option maxHeartbeats 4000000 in
set_option maxRecDepth 100000 in
theorem lc_5 (hx : p.tables.exec = Jvm.exec) (hb : cd.code = code) (hml : cd.maxLocals = 4) (hown : s.vm.findClass RL = some m.cls) (hts : ∀ w ∈ WT, w.before #[Value.ref b] s = true) (hX : va_X b L xs s s.heap) (hbl : b < s.heap.size) (hbA : ¬ gA G b) (hi : i + 6 ≤ L) (hL : L ≤ 3072) (hJ : JJ G c) (hw : Hw G c s H) (hS : va_S (gA G) s.heap H locs) (hl : lv_has ls 4 [(0, .ref b), (1, .ref (gad G 0)), (2, .ref (gad G 32)), (3, .int (nI i))]) (K : ∀ (c1 : Nat → va_E) (H1 : Heap) (locs1 : List Loc), JJ G c1 → Hw G c1 s H1 → va_S (gA G) s.heap H1 locs1 → W p l e room_1 s m #[Value.ref b] below meth cd H1 locs1 45 2483 Q (F0 m 1630 ls [])) : W p l e room_1 s m #[Value.ref b] below meth cd H locs 45 2483 Q (F0 m 423 ls []) := by
  obtain ⟨im, iz, z, n, n1, n2, rn, qn, tn, f, f1, f2, rf, rt, qf, qt, tf, ss, sz, sg, si, it, lw, cl, kn, kk, ks, kv, m0, g, hd, sd, fr, tto, tk, wo, hA, hB, hP⟩ := hJ
  refine lv_aload_n hx hb dL_423 rfl (lv_at hl 1 rfl) ?_
  refine ld5 (k := 1) (kn := 1) hx hb hX hbl hbA hS hi hL hl rfl (by decide) (by decide) dL_424 dL_425 dL_426 dL_427 dL_428 ?_
  refine ld5 (k := 2) (kn := 2) hx hb hX hbl hbA hS hi hL hl rfl (by decide) (by decide) dL_429 dL_430 dL_431 dL_432 dL_433 ?_
  refine cSi (rV (As := [_, _]) ⟨hx, hb, hml, hown, hts⟩ hw (k_X10_of l (hA.1) (hA.2.1) (hA.2.2.1) (hP.1)) (cv_X10_of hts tw_244 rfl rfl ⟨Nat.le_of_ble_eq_true rfl, Nat.le_of_ble_eq_true rfl⟩) (by decide) (hA.1) rfl rfl hl.1 rfl (by first | exact Nat.le_of_ble_eq_true rfl | decide) dL_434 ⟨Nat.le_of_ble_eq_true rfl, Nat.le_of_ble_eq_true rfl⟩) (fun r1 p1 => ?_)
  refine lv_aload_n hx hb dL_437 rfl (lv_at hl 2 rfl) ?_
  refine ld5 (k := 1) (kn := 1) hx hb hX hbl hbA hS hi hL hl rfl (by decide) (by decide) dL_438 dL_439 dL_440 dL_441 dL_442 ?_
  refine ld5 (k := 2) (kn := 2) hx hb hX hbl hbA hS hi hL hl rfl (by decide) (by decide) dL_443 dL_444 dL_445 dL_446 dL_447 ?_
  refine cSi (rV (As := [_, _]) ⟨hx, hb, hml, hown, hts⟩ hw (k_X11_of l (hB.1) (hB.2.1) (hP.1)) (cv_X11_of hts tw_1012 rfl rfl ⟨Nat.le_of_ble_eq_true rfl, Nat.le_of_ble_eq_true rfl⟩) (by decide) (hB.1) rfl rfl hl.1 rfl (by first | exact Nat.le_of_ble_eq_true rfl | decide) dL_448 ⟨Nat.le_of_ble_eq_true rfl, Nat.le_of_ble_eq_true rfl⟩) (fun r2 p2 => ?_)
  have jc : _ := jc_of hA hB hP p1 p2
  refine lv_icmp_eq (tgt := 1630) hx hb dL_451 (by decide) (fun _ => ?_) (fun q => absurd (jc) q)
  exact K _ _ _ (⟨im, iz, z, n, n1, n2, rn, qn, tn, f, f1, f2, rf, rt, qf, qt, tf, ss, sz, sg, si, it, lw, cl, kn, kk, ks, kv, m0, g, hd, sd, fr, tto, tk, wo, hA, hB, hP⟩) hw hS
set_option maxHeartbeats 4000000 in
set_option maxRecDepth 100000 in
theorem lc_6 (hx : p.tables.exec = Jvm.exec) (hb : cd.code = code) (hml : cd.maxLocals = 4) (hown : s.vm.findClass RL = some m.cls) (hts : ∀ w ∈ WT, w.before #[Value.ref b] s = true) (hX : va_X b L xs s s.heap) (hbl : b < s.heap.size) (hbA : ¬ gA G b) (hi : i + 6 ≤ L) (hL : L ≤ 3072) (hJ : JJ G c) (hw : Hw G c s H) (hS : va_S (gA G) s.heap H locs) (hl : lv_has ls 4 [(0, .ref b), (1, .ref (gad G 0)), (2, .ref (gad G 32)), (3, .int (nI i))]) (K : ∀ (c1 : Nat → va_E) (H1 : Heap) (locs1 : List Loc), JJ G c1 → Hw G c1 s H1 → va_S (gA G) s.heap H1 locs1 → W p l e room_1 s m #[Value.ref b] below meth cd H1 locs1 45 2483 Q (F0 m 1630 ls [])) : W p l e room_1 s m #[Value.ref b] below meth cd H locs 45 2483 Q (F0 m 456 ls []) := by
  obtain ⟨im, iz, z, n, n1, n2, rn, qn, tn, f, f1, f2, rf, rt, qf, qt, tf, ss, sz, sg, si, it, lw, cl, kn, kk, ks, kv, m0, g, hd, sd, fr, tto, tk, wo, hA, hB, hP⟩ := hJ
  refine lv_aload_n hx hb dL_456 rfl (lv_at hl 1 rfl) ?_
  refine cQi (rV (As := []) ⟨hx, hb, hml, hown, hts⟩ hw (k_X10_drop l (hA.1) (hA.2.1) (hA.2.2.1) (hP.1)) (cv_X10_drop hts tw_248 rfl rfl ⟨Nat.le_of_ble_eq_true rfl, Nat.le_of_ble_eq_true rfl⟩) (by decide) (hA.1) rfl rfl hl.1 rfl (by first | exact Nat.le_of_ble_eq_true rfl | decide) dL_457 ⟨Nat.le_of_ble_eq_true rfl, Nat.le_of_ble_eq_true rfl⟩) hw hS (fun r1 c1 H locs p1 hw hS => ?_)
  have frm := jf_drop hA hB hP p1
  refine lv_aload_n hx hb dL_460 rfl (lv_at hl 2 rfl) ?_
  refine cQi (rV (As := []) ⟨hx, hb, hml, hown, hts⟩ hw (k_X11_drop l ((frm 32 (by decide)).trans (hB.1)) ((frm 33 (by decide)).trans (hB.2.1)) (hP.1)) (cv_X11_drop hts tw_1016 rfl rfl ⟨Nat.le_of_ble_eq_true rfl, Nat.le_of_ble_eq_true rfl⟩) (by decide) ((frm 32 (by decide)).trans (hB.1)) rfl rfl hl.1 rfl (by first | exact Nat.le_of_ble_eq_true rfl | decide) dL_461 ⟨Nat.le_of_ble_eq_true rfl, Nat.le_of_ble_eq_true rfl⟩) hw hS (fun r2 c2 H locs p2 hw hS => ?_)
  have jc := jc_drop hA hB hP p1 p2
  refine lv_icmp_eq (tgt := 1630) hx hb dL_464 (by decide) (fun _ => ?_) (fun q => absurd (jc.1) q)
  exact K _ _ _ (jc.2) hw hS
set_option maxHeartbeats 4000000 in
set_option maxRecDepth 100000 in
theorem lc_7 (hx : p.tables.exec = Jvm.exec) (hb : cd.code = code) (hml : cd.maxLocals = 4) (hown : s.vm.findClass RL = some m.cls) (hts : ∀ w ∈ WT, w.before #[Value.ref b] s = true) (hX : va_X b L xs s s.heap) (hbl : b < s.heap.size) (hbA : ¬ gA G b) (hi : i + 6 ≤ L) (hL : L ≤ 3072) (hJ : JJ G c) (hw : Hw G c s H) (hS : va_S (gA G) s.heap H locs) (hl : lv_has ls 4 [(0, .ref b), (1, .ref (gad G 0)), (2, .ref (gad G 32)), (3, .int (nI i))]) (K : ∀ (c1 : Nat → va_E) (H1 : Heap) (locs1 : List Loc), JJ G c1 → Hw G c1 s H1 → va_S (gA G) s.heap H1 locs1 → W p l e room_1 s m #[Value.ref b] below meth cd H1 locs1 45 2483 Q (F0 m 1630 ls [])) : W p l e room_1 s m #[Value.ref b] below meth cd H locs 45 2483 Q (F0 m 469 ls []) := by
  obtain ⟨im, iz, z, n, n1, n2, rn, qn, tn, f, f1, f2, rf, rt, qf, qt, tf, ss, sz, sg, si, it, lw, cl, kn, kk, ks, kv, m0, g, hd, sd, fr, tto, tk, wo, hA, hB, hP⟩ := hJ
  refine lv_aload_n hx hb dL_469 rfl (lv_at hl 1 rfl) ?_
  refine ld5 (k := 1) (kn := 1) hx hb hX hbl hbA hS hi hL hl rfl (by decide) (by decide) dL_470 dL_471 dL_472 dL_473 dL_474 ?_
  refine ld5 (k := 2) (kn := 2) hx hb hX hbl hbA hS hi hL hl rfl (by decide) (by decide) dL_475 dL_476 dL_477 dL_478 dL_479 ?_
  refine ld5 (k := 3) (kn := 3) hx hb hX hbl hbA hS hi hL hl rfl (by decide) (by decide) dL_480 dL_481 dL_482 dL_483 dL_484 ?_
  refine ld5 (k := 4) (kn := 4) hx hb hX hbl hbA hS hi hL hl rfl (by decide) (by decide) dL_485 dL_486 dL_487 dL_488 dL_489 ?_
  refine ld5 (k := 5) (kn := 5) hx hb hX hbl hbA hS hi hL hl rfl (by decide) (by decide) dL_490 dL_491 dL_492 dL_493 dL_494 ?_
  refine cSe (rV (As := [_, _, _, _, _]) ⟨hx, hb, hml, hown, hts⟩ hw (k_X10_profile l (hA.1)) (cv_X10_profile hts tw_260 rfl rfl ⟨Nat.le_of_ble_eq_true rfl, Nat.le_of_ble_eq_true rfl⟩) (by decide) (hA.1) rfl rfl hl.1 rfl (by first | exact Nat.le_of_ble_eq_true rfl | decide) dL_495 ⟨Nat.le_of_ble_eq_true rfl, Nat.le_of_ble_eq_true rfl⟩) ?_
  refine lv_aload_n hx hb dL_498 rfl (lv_at hl 2 rfl) ?_
  refine ld5 (k := 1) (kn := 1) hx hb hX hbl hbA hS hi hL hl rfl (by decide) (by decide) dL_499 dL_500 dL_501 dL_502 dL_503 ?_
  refine ld5 (k := 2) (kn := 2) hx hb hX hbl hbA hS hi hL hl rfl (by decide) (by decide) dL_504 dL_505 dL_506 dL_507 dL_508 ?_
  refine ld5 (k := 3) (kn := 3) hx hb hX hbl hbA hS hi hL hl rfl (by decide) (by decide) dL_509 dL_510 dL_511 dL_512 dL_513 ?_
  refine ld5 (k := 4) (kn := 4) hx hb hX hbl hbA hS hi hL hl rfl (by decide) (by decide) dL_514 dL_515 dL_516 dL_517 dL_518 ?_
  refine ld5 (k := 5) (kn := 5) hx hb hX hbl hbA hS hi hL hl rfl (by decide) (by decide) dL_519 dL_520 dL_521 dL_522 dL_523 ?_
  refine cSe (rV (As := [_, _, _, _, _]) ⟨hx, hb, hml, hown, hts⟩ hw (k_X11_profile l (hB.1)) (cv_X11_profile hts tw_1020 rfl rfl ⟨Nat.le_of_ble_eq_true rfl, Nat.le_of_ble_eq_true rfl⟩) (by decide) (hB.1) rfl rfl hl.1 rfl (by first | exact Nat.le_of_ble_eq_true rfl | decide) dL_524 ⟨Nat.le_of_ble_eq_true rfl, Nat.le_of_ble_eq_true rfl⟩) ?_
  have jc : True := trivial
  refine lv_icmp_eq (tgt := 1630) hx hb dL_527 (by decide) (fun _ => ?_) (fun q => absurd (rfl) q)
  exact K _ _ _ (⟨im, iz, z, n, n1, n2, rn, qn, tn, f, f1, f2, rf, rt, qf, qt, tf, ss, sz, sg, si, it, lw, cl, kn, kk, ks, kv, m0, g, hd, sd, fr, tto, tk, wo, hA, hB, hP⟩) hw hS
set_option maxHeartbeats 4000000 in
set_option maxRecDepth 100000 in
theorem lc_8 (hx : p.tables.exec = Jvm.exec) (hb : cd.code = code) (hml : cd.maxLocals = 4) (hown : s.vm.findClass RL = some m.cls) (hts : ∀ w ∈ WT, w.before #[Value.ref b] s = true) (hX : va_X b L xs s s.heap) (hbl : b < s.heap.size) (hbA : ¬ gA G b) (hi : i + 6 ≤ L) (hL : L ≤ 3072) (hJ : JJ G c) (hw : Hw G c s H) (hS : va_S (gA G) s.heap H locs) (hl : lv_has ls 4 [(0, .ref b), (1, .ref (gad G 0)), (2, .ref (gad G 32)), (3, .int (nI i))]) (K : ∀ (c1 : Nat → va_E) (H1 : Heap) (locs1 : List Loc), JJ G c1 → Hw G c1 s H1 → va_S (gA G) s.heap H1 locs1 → W p l e room_1 s m #[Value.ref b] below meth cd H1 locs1 45 2483 Q (F0 m 1630 ls [])) : W p l e room_1 s m #[Value.ref b] below meth cd H locs 45 2483 Q (F0 m 532 ls []) := by
  obtain ⟨im, iz, z, n, n1, n2, rn, qn, tn, f, f1, f2, rf, rt, qf, qt, tf, ss, sz, sg, si, it, lw, cl, kn, kk, ks, kv, m0, g, hd, sd, fr, tto, tk, wo, hA, hB, hP⟩ := hJ
  refine lv_aload_n hx hb dL_532 rfl (lv_at hl 1 rfl) ?_
  refine ld5 (k := 1) (kn := 1) hx hb hX hbl hbA hS hi hL hl rfl (by decide) (by decide) dL_533 dL_534 dL_535 dL_536 dL_537 ?_
  refine ld5 (k := 2) (kn := 2) hx hb hX hbl hbA hS hi hL hl rfl (by decide) (by decide) dL_538 dL_539 dL_540 dL_541 dL_542 ?_
  refine cSe (rV (As := [_, _]) ⟨hx, hb, hml, hown, hts⟩ hw (k_X10_trait l (hA.1)) (cv_X10_trait hts tw_272 rfl rfl ⟨Nat.le_of_ble_eq_true rfl, Nat.le_of_ble_eq_true rfl⟩) (by decide) (hA.1) rfl rfl hl.1 rfl (by first | exact Nat.le_of_ble_eq_true rfl | decide) dL_543 ⟨Nat.le_of_ble_eq_true rfl, Nat.le_of_ble_eq_true rfl⟩) ?_
  refine lv_aload_n hx hb dL_546 rfl (lv_at hl 2 rfl) ?_
  refine ld5 (k := 1) (kn := 1) hx hb hX hbl hbA hS hi hL hl rfl (by decide) (by decide) dL_547 dL_548 dL_549 dL_550 dL_551 ?_
  refine ld5 (k := 2) (kn := 2) hx hb hX hbl hbA hS hi hL hl rfl (by decide) (by decide) dL_552 dL_553 dL_554 dL_555 dL_556 ?_
  refine cSe (rV (As := [_, _]) ⟨hx, hb, hml, hown, hts⟩ hw (k_X11_trait l (hB.1)) (cv_X11_trait hts tw_1026 rfl rfl ⟨Nat.le_of_ble_eq_true rfl, Nat.le_of_ble_eq_true rfl⟩) (by decide) (hB.1) rfl rfl hl.1 rfl (by first | exact Nat.le_of_ble_eq_true rfl | decide) dL_557 ⟨Nat.le_of_ble_eq_true rfl, Nat.le_of_ble_eq_true rfl⟩) ?_
  have jc : True := trivial
  refine lv_icmp_eq (tgt := 1630) hx hb dL_560 (by decide) (fun _ => ?_) (fun q => absurd (rfl) q)
  exact K _ _ _ (⟨im, iz, z, n, n1, n2, rn, qn, tn, f, f1, f2, rf, rt, qf, qt, tf, ss, sz, sg, si, it, lw, cl, kn, kk, ks, kv, m0, g, hd, sd, fr, tto, tk, wo, hA, hB, hP⟩) hw hS
set_option maxHeartbeats 4000000 in
set_option maxRecDepth 100000 in
theorem lc_9 (hx : p.tables.exec = Jvm.exec) (hb : cd.code = code) (hml : cd.maxLocals = 4) (hown : s.vm.findClass RL = some m.cls) (hts : ∀ w ∈ WT, w.before #[Value.ref b] s = true) (hX : va_X b L xs s s.heap) (hbl : b < s.heap.size) (hbA : ¬ gA G b) (hi : i + 6 ≤ L) (hL : L ≤ 3072) (hJ : JJ G c) (hw : Hw G c s H) (hS : va_S (gA G) s.heap H locs) (hl : lv_has ls 4 [(0, .ref b), (1, .ref (gad G 0)), (2, .ref (gad G 32)), (3, .int (nI i))]) (K : ∀ (c1 : Nat → va_E) (H1 : Heap) (locs1 : List Loc), JJ G c1 → Hw G c1 s H1 → va_S (gA G) s.heap H1 locs1 → W p l e room_1 s m #[Value.ref b] below meth cd H1 locs1 45 2483 Q (F0 m 1630 ls [])) : W p l e room_1 s m #[Value.ref b] below meth cd H locs 45 2483 Q (F0 m 565 ls []) := by
  obtain ⟨im, iz, z, n, n1, n2, rn, qn, tn, f, f1, f2, rf, rt, qf, qt, tf, ss, sz, sg, si, it, lw, cl, kn, kk, ks, kv, m0, g, hd, sd, fr, tto, tk, wo, hA, hB, hP⟩ := hJ
  refine lv_aload_n hx hb dL_565 rfl (lv_at hl 1 rfl) ?_
  refine ld5 (k := 1) (kn := 1) hx hb hX hbl hbA hS hi hL hl rfl (by decide) (by decide) dL_566 dL_567 dL_568 dL_569 dL_570 ?_
  refine ld5 (k := 2) (kn := 2) hx hb hX hbl hbA hS hi hL hl rfl (by decide) (by decide) dL_571 dL_572 dL_573 dL_574 dL_575 ?_
  refine cSe (rV (As := [_, _]) ⟨hx, hb, hml, hown, hts⟩ hw (k_X10_outcome l (hA.1) (hA.2.1) (hA.2.2.1) (hP.1)) (cv_X10_outcome hts tw_283 rfl rfl ⟨Nat.le_of_ble_eq_true rfl, Nat.le_of_ble_eq_true rfl⟩) (by decide) (hA.1) rfl rfl hl.1 rfl (by first | exact Nat.le_of_ble_eq_true rfl | decide) dL_576 ⟨Nat.le_of_ble_eq_true rfl, Nat.le_of_ble_eq_true rfl⟩) ?_
  refine lv_aload_n hx hb dL_579 rfl (lv_at hl 2 rfl) ?_
  refine ld5 (k := 1) (kn := 1) hx hb hX hbl hbA hS hi hL hl rfl (by decide) (by decide) dL_580 dL_581 dL_582 dL_583 dL_584 ?_
  refine ld5 (k := 2) (kn := 2) hx hb hX hbl hbA hS hi hL hl rfl (by decide) (by decide) dL_585 dL_586 dL_587 dL_588 dL_589 ?_
  refine cQi (rV (As := [_, _]) ⟨hx, hb, hml, hown, hts⟩ hw (k_X11_outcome l (hB.1) (hB.2.1) (hP.1) (hP.2.2.2.2.2.2.1)) (cv_X11_outcome hts tw_1043 rfl rfl ⟨Nat.le_of_ble_eq_true rfl, Nat.le_of_ble_eq_true rfl⟩) (by decide) (hB.1) rfl rfl hl.1 rfl (by first | exact Nat.le_of_ble_eq_true rfl | decide) dL_590 ⟨Nat.le_of_ble_eq_true rfl, Nat.le_of_ble_eq_true rfl⟩) hw hS (fun r2 c2 H locs p2 hw hS => ?_)
  have jc := jc_outcome hA hB hP p2
  refine lv_icmp_eq (tgt := 1630) hx hb dL_593 (by decide) (fun _ => ?_) (fun q => absurd (jc.1) q)
  exact K _ _ _ (jc.2) hw hS
set_option maxHeartbeats 4000000 in
set_option maxRecDepth 100000 in
theorem lc_10 (hx : p.tables.exec = Jvm.exec) (hb : cd.code = code) (hml : cd.maxLocals = 4) (hown : s.vm.findClass RL = some m.cls) (hts : ∀ w ∈ WT, w.before #[Value.ref b] s = true) (hX : va_X b L xs s s.heap) (hbl : b < s.heap.size) (hbA : ¬ gA G b) (hi : i + 6 ≤ L) (hL : L ≤ 3072) (hJ : JJ G c) (hw : Hw G c s H) (hS : va_S (gA G) s.heap H locs) (hl : lv_has ls 4 [(0, .ref b), (1, .ref (gad G 0)), (2, .ref (gad G 32)), (3, .int (nI i))]) (K : ∀ (c1 : Nat → va_E) (H1 : Heap) (locs1 : List Loc), JJ G c1 → Hw G c1 s H1 → va_S (gA G) s.heap H1 locs1 → W p l e room_1 s m #[Value.ref b] below meth cd H1 locs1 45 2483 Q (F0 m 1630 ls [])) : W p l e room_1 s m #[Value.ref b] below meth cd H locs 45 2483 Q (F0 m 598 ls []) := by
  obtain ⟨im, iz, z, n, n1, n2, rn, qn, tn, f, f1, f2, rf, rt, qf, qt, tf, ss, sz, sg, si, it, lw, cl, kn, kk, ks, kv, m0, g, hd, sd, fr, tto, tk, wo, hA, hB, hP⟩ := hJ
  refine lv_aload_n hx hb dL_598 rfl (lv_at hl 1 rfl) ?_
  refine ld5 (k := 1) (kn := 1) hx hb hX hbl hbA hS hi hL hl rfl (by decide) (by decide) dL_599 dL_600 dL_601 dL_602 dL_603 ?_
  refine ld5 (k := 2) (kn := 2) hx hb hX hbl hbA hS hi hL hl rfl (by decide) (by decide) dL_604 dL_605 dL_606 dL_607 dL_608 ?_
  refine cSe (rV (As := [_, _]) ⟨hx, hb, hml, hown, hts⟩ hw (k_X10_reason l (hA.1) (hA.2.1) (hA.2.2.1) (hP.1)) (cv_X10_reason hts tw_330 rfl rfl ⟨Nat.le_of_ble_eq_true rfl, Nat.le_of_ble_eq_true rfl⟩) (by decide) (hA.1) rfl rfl hl.1 rfl (by first | exact Nat.le_of_ble_eq_true rfl | decide) dL_609 ⟨Nat.le_of_ble_eq_true rfl, Nat.le_of_ble_eq_true rfl⟩) ?_
  refine lv_aload_n hx hb dL_612 rfl (lv_at hl 2 rfl) ?_
  refine ld5 (k := 1) (kn := 1) hx hb hX hbl hbA hS hi hL hl rfl (by decide) (by decide) dL_613 dL_614 dL_615 dL_616 dL_617 ?_
  refine ld5 (k := 2) (kn := 2) hx hb hX hbl hbA hS hi hL hl rfl (by decide) (by decide) dL_618 dL_619 dL_620 dL_621 dL_622 ?_
  refine cQi (rV (As := [_, _]) ⟨hx, hb, hml, hown, hts⟩ hw (k_X11_reason l (hB.1) (hB.2.1) (hP.1) (hP.2.2.2.2.2.2.1)) (cv_X11_reason hts tw_1078 rfl rfl ⟨Nat.le_of_ble_eq_true rfl, Nat.le_of_ble_eq_true rfl⟩) (by decide) (hB.1) rfl rfl hl.1 rfl (by first | exact Nat.le_of_ble_eq_true rfl | decide) dL_623 ⟨Nat.le_of_ble_eq_true rfl, Nat.le_of_ble_eq_true rfl⟩) hw hS (fun r2 c2 H locs p2 hw hS => ?_)
  have jc := jc_reason hA hB hP p2
  refine lv_icmp_eq (tgt := 1630) hx hb dL_626 (by decide) (fun _ => ?_) (fun q => absurd (jc.1) q)
  exact K _ _ _ (jc.2) hw hS
set_option maxHeartbeats 4000000 in
set_option maxRecDepth 100000 in
theorem lc_11 (hx : p.tables.exec = Jvm.exec) (hb : cd.code = code) (hml : cd.maxLocals = 4) (hown : s.vm.findClass RL = some m.cls) (hts : ∀ w ∈ WT, w.before #[Value.ref b] s = true) (hX : va_X b L xs s s.heap) (hbl : b < s.heap.size) (hbA : ¬ gA G b) (hi : i + 6 ≤ L) (hL : L ≤ 3072) (hJ : JJ G c) (hw : Hw G c s H) (hS : va_S (gA G) s.heap H locs) (hl : lv_has ls 4 [(0, .ref b), (1, .ref (gad G 0)), (2, .ref (gad G 32)), (3, .int (nI i))]) (K : ∀ (c1 : Nat → va_E) (H1 : Heap) (locs1 : List Loc), JJ G c1 → Hw G c1 s H1 → va_S (gA G) s.heap H1 locs1 → W p l e room_1 s m #[Value.ref b] below meth cd H1 locs1 45 2483 Q (F0 m 1630 ls [])) : W p l e room_1 s m #[Value.ref b] below meth cd H locs 45 2483 Q (F0 m 631 ls []) := by
  obtain ⟨im, iz, z, n, n1, n2, rn, qn, tn, f, f1, f2, rf, rt, qf, qt, tf, ss, sz, sg, si, it, lw, cl, kn, kk, ks, kv, m0, g, hd, sd, fr, tto, tk, wo, hA, hB, hP⟩ := hJ
  refine lv_aload_n hx hb dL_631 rfl (lv_at hl 1 rfl) ?_
  refine ld5 (k := 1) (kn := 1) hx hb hX hbl hbA hS hi hL hl rfl (by decide) (by decide) dL_632 dL_633 dL_634 dL_635 dL_636 ?_
  refine ld5 (k := 2) (kn := 2) hx hb hX hbl hbA hS hi hL hl rfl (by decide) (by decide) dL_637 dL_638 dL_639 dL_640 dL_641 ?_
  refine ld5 (k := 3) (kn := 3) hx hb hX hbl hbA hS hi hL hl rfl (by decide) (by decide) dL_642 dL_643 dL_644 dL_645 dL_646 ?_
  refine ld5 (k := 4) (kn := 4) hx hb hX hbl hbA hS hi hL hl rfl (by decide) (by decide) dL_647 dL_648 dL_649 dL_650 dL_651 ?_
  refine cSe (rV (As := [_, _, _, _]) ⟨hx, hb, hml, hown, hts⟩ hw (k_X10_why l (hA.1) (hA.2.1) (hA.2.2.1) (hP.1)) (cv_X10_why hts tw_336 rfl rfl ⟨Nat.le_of_ble_eq_true rfl, Nat.le_of_ble_eq_true rfl⟩) (by decide) (hA.1) rfl rfl hl.1 rfl (by first | exact Nat.le_of_ble_eq_true rfl | decide) dL_652 ⟨Nat.le_of_ble_eq_true rfl, Nat.le_of_ble_eq_true rfl⟩) ?_
  refine lv_aload_n hx hb dL_655 rfl (lv_at hl 2 rfl) ?_
  refine ld5 (k := 1) (kn := 1) hx hb hX hbl hbA hS hi hL hl rfl (by decide) (by decide) dL_656 dL_657 dL_658 dL_659 dL_660 ?_
  refine ld5 (k := 2) (kn := 2) hx hb hX hbl hbA hS hi hL hl rfl (by decide) (by decide) dL_661 dL_662 dL_663 dL_664 dL_665 ?_
  refine ld5 (k := 3) (kn := 3) hx hb hX hbl hbA hS hi hL hl rfl (by decide) (by decide) dL_666 dL_667 dL_668 dL_669 dL_670 ?_
  refine ld5 (k := 4) (kn := 4) hx hb hX hbl hbA hS hi hL hl rfl (by decide) (by decide) dL_671 dL_672 dL_673 dL_674 dL_675 ?_
  refine cQi (rV (As := [_, _, _, _]) ⟨hx, hb, hml, hown, hts⟩ hw (k_X11_why l (hB.1) (hB.2.1) (hP.1) (hP.2.2.2.2.2.2.1)) (cv_X11_why hts tw_1082 rfl rfl ⟨Nat.le_of_ble_eq_true rfl, Nat.le_of_ble_eq_true rfl⟩) (by decide) (hB.1) rfl rfl hl.1 rfl (by first | exact Nat.le_of_ble_eq_true rfl | decide) dL_676 ⟨Nat.le_of_ble_eq_true rfl, Nat.le_of_ble_eq_true rfl⟩) hw hS (fun r2 c2 H locs p2 hw hS => ?_)
  have jc := jc_why hA hB hP p2
  refine lv_icmp_eq (tgt := 1630) hx hb dL_679 (by decide) (fun _ => ?_) (fun q => absurd (jc.1) q)
  exact K _ _ _ (jc.2) hw hS
set_option maxHeartbeats 4000000 in
set_option maxRecDepth 100000 in
theorem lc_12 (hx : p.tables.exec = Jvm.exec) (hb : cd.code = code) (hml : cd.maxLocals = 4) (hown : s.vm.findClass RL = some m.cls) (hts : ∀ w ∈ WT, w.before #[Value.ref b] s = true) (hX : va_X b L xs s s.heap) (hbl : b < s.heap.size) (hbA : ¬ gA G b) (hi : i + 6 ≤ L) (hL : L ≤ 3072) (hJ : JJ G c) (hw : Hw G c s H) (hS : va_S (gA G) s.heap H locs) (hl : lv_has ls 4 [(0, .ref b), (1, .ref (gad G 0)), (2, .ref (gad G 32)), (3, .int (nI i))]) (K : ∀ (c1 : Nat → va_E) (H1 : Heap) (locs1 : List Loc), JJ G c1 → Hw G c1 s H1 → va_S (gA G) s.heap H1 locs1 → W p l e room_1 s m #[Value.ref b] below meth cd H1 locs1 45 2483 Q (F0 m 1630 ls [])) : W p l e room_1 s m #[Value.ref b] below meth cd H locs 45 2483 Q (F0 m 684 ls []) := by
  obtain ⟨im, iz, z, n, n1, n2, rn, qn, tn, f, f1, f2, rf, rt, qf, qt, tf, ss, sz, sg, si, it, lw, cl, kn, kk, ks, kv, m0, g, hd, sd, fr, tto, tk, wo, hA, hB, hP⟩ := hJ
  refine lv_aload_n hx hb dL_684 rfl (lv_at hl 1 rfl) ?_
  refine ld5 (k := 1) (kn := 1) hx hb hX hbl hbA hS hi hL hl rfl (by decide) (by decide) dL_685 dL_686 dL_687 dL_688 dL_689 ?_
  refine ld5 (k := 2) (kn := 2) hx hb hX hbl hbA hS hi hL hl rfl (by decide) (by decide) dL_690 dL_691 dL_692 dL_693 dL_694 ?_
  refine ld5 (k := 3) (kn := 3) hx hb hX hbl hbA hS hi hL hl rfl (by decide) (by decide) dL_695 dL_696 dL_697 dL_698 dL_699 ?_
  refine cSe (rV (As := [_, _, _]) ⟨hx, hb, hml, hown, hts⟩ hw (k_X10_hold l (hA.1) (hA.2.1) (hA.2.2.1) (hP.1)) (cv_X10_hold hts tw_351 rfl rfl ⟨Nat.le_of_ble_eq_true rfl, Nat.le_of_ble_eq_true rfl⟩) (by decide) (hA.1) rfl rfl hl.1 rfl (by first | exact Nat.le_of_ble_eq_true rfl | decide) dL_700 ⟨Nat.le_of_ble_eq_true rfl, Nat.le_of_ble_eq_true rfl⟩) ?_
  refine lv_aload_n hx hb dL_703 rfl (lv_at hl 2 rfl) ?_
  refine ld5 (k := 1) (kn := 1) hx hb hX hbl hbA hS hi hL hl rfl (by decide) (by decide) dL_704 dL_705 dL_706 dL_707 dL_708 ?_
  refine ld5 (k := 2) (kn := 2) hx hb hX hbl hbA hS hi hL hl rfl (by decide) (by decide) dL_709 dL_710 dL_711 dL_712 dL_713 ?_
  refine ld5 (k := 3) (kn := 3) hx hb hX hbl hbA hS hi hL hl rfl (by decide) (by decide) dL_714 dL_715 dL_716 dL_717 dL_718 ?_
  refine cQi (rV (As := [_, _, _]) ⟨hx, hb, hml, hown, hts⟩ hw (k_X11_hold l (hB.1) (hB.2.1) (hP.1) (hP.2.2.2.2.2.2.1)) (cv_X11_hold hts tw_1090 rfl rfl ⟨Nat.le_of_ble_eq_true rfl, Nat.le_of_ble_eq_true rfl⟩) (by decide) (hB.1) rfl rfl hl.1 rfl (by first | exact Nat.le_of_ble_eq_true rfl | decide) dL_719 ⟨Nat.le_of_ble_eq_true rfl, Nat.le_of_ble_eq_true rfl⟩) hw hS (fun r2 c2 H locs p2 hw hS => ?_)
  have jc := jc_hold hA hB hP p2
  refine lv_icmp_eq (tgt := 1630) hx hb dL_722 (by decide) (fun _ => ?_) (fun q => absurd (jc.1) q)
  exact K _ _ _ (jc.2) hw hS
set_option maxHeartbeats 4000000 in
set_option maxRecDepth 100000 in
theorem lc_13 (hx : p.tables.exec = Jvm.exec) (hb : cd.code = code) (hml : cd.maxLocals = 4) (hown : s.vm.findClass RL = some m.cls) (hts : ∀ w ∈ WT, w.before #[Value.ref b] s = true) (hX : va_X b L xs s s.heap) (hbl : b < s.heap.size) (hbA : ¬ gA G b) (hi : i + 6 ≤ L) (hL : L ≤ 3072) (hJ : JJ G c) (hw : Hw G c s H) (hS : va_S (gA G) s.heap H locs) (hl : lv_has ls 4 [(0, .ref b), (1, .ref (gad G 0)), (2, .ref (gad G 32)), (3, .int (nI i))]) (K : ∀ (c1 : Nat → va_E) (H1 : Heap) (locs1 : List Loc), JJ G c1 → Hw G c1 s H1 → va_S (gA G) s.heap H1 locs1 → W p l e room_1 s m #[Value.ref b] below meth cd H1 locs1 45 2483 Q (F0 m 1630 ls [])) : W p l e room_1 s m #[Value.ref b] below meth cd H locs 45 2483 Q (F0 m 727 ls []) := by
  obtain ⟨im, iz, z, n, n1, n2, rn, qn, tn, f, f1, f2, rf, rt, qf, qt, tf, ss, sz, sg, si, it, lw, cl, kn, kk, ks, kv, m0, g, hd, sd, fr, tto, tk, wo, hA, hB, hP⟩ := hJ
  refine lv_aload_n hx hb dL_727 rfl (lv_at hl 1 rfl) ?_
  refine ld5 (k := 1) (kn := 1) hx hb hX hbl hbA hS hi hL hl rfl (by decide) (by decide) dL_728 dL_729 dL_730 dL_731 dL_732 ?_
  refine ld5 (k := 2) (kn := 2) hx hb hX hbl hbA hS hi hL hl rfl (by decide) (by decide) dL_733 dL_734 dL_735 dL_736 dL_737 ?_
  refine ld5 (k := 3) (kn := 3) hx hb hX hbl hbA hS hi hL hl rfl (by decide) (by decide) dL_738 dL_739 dL_740 dL_741 dL_742 ?_
  refine ld5 (k := 4) (kn := 4) hx hb hX hbl hbA hS hi hL hl rfl (by decide) (by decide) dL_743 dL_744 dL_745 dL_746 dL_747 ?_
  refine cQi (rV (As := [_, _, _, _]) ⟨hx, hb, hml, hown, hts⟩ hw (k_X10_best l (hA.1) (hA.2.1) (hA.2.2.1) (hP.1) (hA.2.2.2.2.2.2.2.2.2.2.2.2.2.2.2.2.1) (hA.2.2.2.2.2.2.2.2.2.2.2.2.2.2.2.2.2.1) (hP.2.2.2.2.2.2.2.2.2.2.2.2.2)) (cv_X10_best hts tw_355 rfl rfl ⟨Nat.le_of_ble_eq_true rfl, Nat.le_of_ble_eq_true rfl⟩) (by decide) (hA.1) rfl rfl hl.1 rfl (by first | exact Nat.le_of_ble_eq_true rfl | decide) dL_748 ⟨Nat.le_of_ble_eq_true rfl, Nat.le_of_ble_eq_true rfl⟩) hw hS (fun r1 c1 H locs p1 hw hS => ?_)
  have frm := jf_best hA hB hP p1
  refine lv_aload_n hx hb dL_751 rfl (lv_at hl 2 rfl) ?_
  refine ld5 (k := 1) (kn := 1) hx hb hX hbl hbA hS hi hL hl rfl (by decide) (by decide) dL_752 dL_753 dL_754 dL_755 dL_756 ?_
  refine ld5 (k := 2) (kn := 2) hx hb hX hbl hbA hS hi hL hl rfl (by decide) (by decide) dL_757 dL_758 dL_759 dL_760 dL_761 ?_
  refine ld5 (k := 3) (kn := 3) hx hb hX hbl hbA hS hi hL hl rfl (by decide) (by decide) dL_762 dL_763 dL_764 dL_765 dL_766 ?_
  refine ld5 (k := 4) (kn := 4) hx hb hX hbl hbA hS hi hL hl rfl (by decide) (by decide) dL_767 dL_768 dL_769 dL_770 dL_771 ?_
  refine cQi (rV (As := [_, _, _, _]) ⟨hx, hb, hml, hown, hts⟩ hw (k_X11_best l ((frm 32 (by decide)).trans (hB.1)) ((frm 33 (by decide)).trans (hB.2.1)) (hP.1) (hP.2.2.2.2.2.2.1)) (cv_X11_best hts tw_1094 rfl rfl ⟨Nat.le_of_ble_eq_true rfl, Nat.le_of_ble_eq_true rfl⟩) (by decide) ((frm 32 (by decide)).trans (hB.1)) rfl rfl hl.1 rfl (by first | exact Nat.le_of_ble_eq_true rfl | decide) dL_772 ⟨Nat.le_of_ble_eq_true rfl, Nat.le_of_ble_eq_true rfl⟩) hw hS (fun r2 c2 H locs p2 hw hS => ?_)
  have jc := jc_best hA hB hP p1 p2
  refine lv_icmp_eq (tgt := 1630) hx hb dL_775 (by decide) (fun _ => ?_) (fun q => absurd (jc.1) q)
  exact K _ _ _ (jc.2) hw hS
end LC
