section LC
variable {p : Program} {l : Launch} {e : Env} {s : State} {m : MethodId} {below : List Frame} {meth : Method} {cd : Code} {b L : Nat} {xs : Nat → Int32} {G : GT} {Q : State → Prop} {c : Nat → va_E} {H : Heap} {locs : List Loc} {ls : Array Slot} {i : Nat}
set_option maxHeartbeats 4000000 in
set_option maxRecDepth 100000 in
theorem lc_28 (hx : p.tables.exec = Jvm.exec) (hb : cd.code = code) (hml : cd.maxLocals = 4) (hown : s.vm.findClass RL = some m.cls) (hts : ∀ w ∈ WT, w.before #[Value.ref b] s = true) (hX : va_X b L xs s s.heap) (hbl : b < s.heap.size) (hbA : ¬ gA G b) (hi : i + 6 ≤ L) (hL : L ≤ 3072) (hJ : JJ G c) (hw : Hw G c s H) (hS : va_S (gA G) s.heap H locs) (hl : lv_has ls 4 [(0, .ref b), (1, .ref (gad G 0)), (2, .ref (gad G 32)), (3, .int (nI i))]) (K : ∀ (c1 : Nat → va_E) (H1 : Heap) (locs1 : List Loc), JJ G c1 → Hw G c1 s H1 → va_S (gA G) s.heap H1 locs1 → W p l e room_1 s m #[Value.ref b] below meth cd H1 locs1 45 2483 Q (F0 m 1630 ls [])) : W p l e room_1 s m #[Value.ref b] below meth cd H locs 45 2483 Q (F0 m 1263 ls []) := by
  obtain ⟨im, iz, z, n, n1, n2, rn, qn, tn, f, f1, f2, rf, rt, qf, qt, tf, ss, sz, sg, si, it, lw, cl, kn, kk, ks, kv, m0, g, hd, sd, fr, tto, tk, wo, hA, hB, hP⟩ := hJ
  refine lv_aload_n hx hb dL_1263 rfl (lv_at hl 1 rfl) ?_
  refine ld5 (k := 1) (kn := 1) hx hb hX hbl hbA hS hi hL hl rfl (by decide) (by decide) dL_1264 dL_1265 dL_1266 dL_1267 dL_1268 ?_
  refine ld5 (k := 2) (kn := 2) hx hb hX hbl hbA hS hi hL hl rfl (by decide) (by decide) dL_1269 dL_1270 dL_1271 dL_1272 dL_1273 ?_
  refine cQi (rV (As := [_, _]) ⟨hx, hb, hml, hown, hts⟩ hw (k_X10_feed l (hA.1) (hA.2.2.2.2.2.2.2.2.2.1) (hA.2.2.2.2.2.2.2.2.2.2.1) (hP.2.2.2.2.2.1)) (cv_X10_feed hts tw_577 rfl rfl ⟨Nat.le_of_ble_eq_true rfl, Nat.le_of_ble_eq_true rfl⟩) (by decide) (hA.1) rfl rfl hl.1 rfl (by first | exact Nat.le_of_ble_eq_true rfl | decide) dL_1274 ⟨Nat.le_of_ble_eq_true rfl, Nat.le_of_ble_eq_true rfl⟩) hw hS (fun r1 c1 H locs p1 hw hS => ?_)
  have frm := jf_feed hA hB hP p1
  refine lv_aload_n hx hb dL_1277 rfl (lv_at hl 2 rfl) ?_
  refine ld5 (k := 1) (kn := 1) hx hb hX hbl hbA hS hi hL hl rfl (by decide) (by decide) dL_1278 dL_1279 dL_1280 dL_1281 dL_1282 ?_
  refine ld5 (k := 2) (kn := 2) hx hb hX hbl hbA hS hi hL hl rfl (by decide) (by decide) dL_1283 dL_1284 dL_1285 dL_1286 dL_1287 ?_
  refine cQi (rV (As := [_, _]) ⟨hx, hb, hml, hown, hts⟩ hw (k_X11_feed l ((frm 32 (by decide)).trans (hB.1)) ((frm 38 (by decide)).trans (hB.2.2.2.2.2.2.1)) (hP.2.2.2.2.2.1)) (cv_X11_feed hts tw_1198 rfl rfl ⟨Nat.le_of_ble_eq_true rfl, Nat.le_of_ble_eq_true rfl⟩) (by decide) ((frm 32 (by decide)).trans (hB.1)) rfl rfl hl.1 rfl (by first | exact Nat.le_of_ble_eq_true rfl | decide) dL_1288 ⟨Nat.le_of_ble_eq_true rfl, Nat.le_of_ble_eq_true rfl⟩) hw hS (fun r2 c2 H locs p2 hw hS => ?_)
  have jc := jc_feed hA hB hP p1 p2
  refine lv_icmp_eq (tgt := 1630) hx hb dL_1291 (by decide) (fun _ => ?_) (fun q => absurd (jc.1) q)
  exact K _ _ _ (jc.2) hw hS
set_option maxHeartbeats 4000000 in
set_option maxRecDepth 100000 in
theorem lc_29 (hx : p.tables.exec = Jvm.exec) (hb : cd.code = code) (hml : cd.maxLocals = 4) (hown : s.vm.findClass RL = some m.cls) (hts : ∀ w ∈ WT, w.before #[Value.ref b] s = true) (hX : va_X b L xs s s.heap) (hbl : b < s.heap.size) (hbA : ¬ gA G b) (hi : i + 6 ≤ L) (hL : L ≤ 3072) (hJ : JJ G c) (hw : Hw G c s H) (hS : va_S (gA G) s.heap H locs) (hl : lv_has ls 4 [(0, .ref b), (1, .ref (gad G 0)), (2, .ref (gad G 32)), (3, .int (nI i))]) (K : ∀ (c1 : Nat → va_E) (H1 : Heap) (locs1 : List Loc), JJ G c1 → Hw G c1 s H1 → va_S (gA G) s.heap H1 locs1 → W p l e room_1 s m #[Value.ref b] below meth cd H1 locs1 45 2483 Q (F0 m 1630 ls [])) : W p l e room_1 s m #[Value.ref b] below meth cd H locs 45 2483 Q (F0 m 1296 ls []) := by
  obtain ⟨im, iz, z, n, n1, n2, rn, qn, tn, f, f1, f2, rf, rt, qf, qt, tf, ss, sz, sg, si, it, lw, cl, kn, kk, ks, kv, m0, g, hd, sd, fr, tto, tk, wo, hA, hB, hP⟩ := hJ
  refine lv_aload_n hx hb dL_1296 rfl (lv_at hl 1 rfl) ?_
  refine cQi (rV (As := []) ⟨hx, hb, hml, hown, hts⟩ hw (k_X10_wipe l (hA.1) (hA.2.2.2.2.2.2.2.2.2.1) (hA.2.2.2.2.2.2.2.2.2.2.1) (hP.2.2.2.2.2.1)) (cv_X10_wipe hts tw_589 rfl rfl ⟨Nat.le_of_ble_eq_true rfl, Nat.le_of_ble_eq_true rfl⟩) (by decide) (hA.1) rfl rfl hl.1 rfl (by first | exact Nat.le_of_ble_eq_true rfl | decide) dL_1297 ⟨Nat.le_of_ble_eq_true rfl, Nat.le_of_ble_eq_true rfl⟩) hw hS (fun r1 c1 H locs p1 hw hS => ?_)
  have frm := jf_wipe hA hB hP p1
  refine lv_aload_n hx hb dL_1300 rfl (lv_at hl 2 rfl) ?_
  refine cQi (rV (As := []) ⟨hx, hb, hml, hown, hts⟩ hw (k_X11_wipe l ((frm 32 (by decide)).trans (hB.1)) ((frm 38 (by decide)).trans (hB.2.2.2.2.2.2.1)) (hP.2.2.2.2.2.1)) (cv_X11_wipe hts tw_1202 rfl rfl ⟨Nat.le_of_ble_eq_true rfl, Nat.le_of_ble_eq_true rfl⟩) (by decide) ((frm 32 (by decide)).trans (hB.1)) rfl rfl hl.1 rfl (by first | exact Nat.le_of_ble_eq_true rfl | decide) dL_1301 ⟨Nat.le_of_ble_eq_true rfl, Nat.le_of_ble_eq_true rfl⟩) hw hS (fun r2 c2 H locs p2 hw hS => ?_)
  have jc := jc_wipe hA hB hP p1 p2
  refine lv_icmp_eq (tgt := 1630) hx hb dL_1304 (by decide) (fun _ => ?_) (fun q => absurd (jc.1) q)
  exact K _ _ _ (jc.2) hw hS
set_option maxHeartbeats 4000000 in
set_option maxRecDepth 100000 in
theorem lc_30 (hx : p.tables.exec = Jvm.exec) (hb : cd.code = code) (hml : cd.maxLocals = 4) (hown : s.vm.findClass RL = some m.cls) (hts : ∀ w ∈ WT, w.before #[Value.ref b] s = true) (hX : va_X b L xs s s.heap) (hbl : b < s.heap.size) (hbA : ¬ gA G b) (hi : i + 6 ≤ L) (hL : L ≤ 3072) (hJ : JJ G c) (hw : Hw G c s H) (hS : va_S (gA G) s.heap H locs) (hl : lv_has ls 4 [(0, .ref b), (1, .ref (gad G 0)), (2, .ref (gad G 32)), (3, .int (nI i))]) (K : ∀ (c1 : Nat → va_E) (H1 : Heap) (locs1 : List Loc), JJ G c1 → Hw G c1 s H1 → va_S (gA G) s.heap H1 locs1 → W p l e room_1 s m #[Value.ref b] below meth cd H1 locs1 45 2483 Q (F0 m 1630 ls [])) : W p l e room_1 s m #[Value.ref b] below meth cd H locs 45 2483 Q (F0 m 1309 ls []) := by
  obtain ⟨im, iz, z, n, n1, n2, rn, qn, tn, f, f1, f2, rf, rt, qf, qt, tf, ss, sz, sg, si, it, lw, cl, kn, kk, ks, kv, m0, g, hd, sd, fr, tto, tk, wo, hA, hB, hP⟩ := hJ
  refine lv_aload_n hx hb dL_1309 rfl (lv_at hl 1 rfl) ?_
  refine cQi (rV (As := []) ⟨hx, hb, hml, hown, hts⟩ hw (k_X10_text l (hA.1) (hA.2.2.2.2.2.2.2.2.2.2.2.2.1) (hA.2.2.2.2.2.2.2.2.2.2.2.2.2.1) (hA.2.2.2.2.2.2.2.2.2.2.2.2.2.2.1) (hA.2.2.2.2.2.2.2.2.2.2.2.2.2.2.2.1) (hP.2.2.2.2.2.2.2.2.2.2.2.2.1) (hA.2.2.2.2.2.2.2.2.2.1) (hA.2.2.2.2.2.2.2.2.2.2.1) (hP.2.2.2.2.2.1) (hA.2.2.2.2.2.2.2.2.2.2.2.1) (hA.2.1) (hA.2.2.1) (hP.1)) (cv_X10_text hts tw_597 rfl rfl ⟨Nat.le_of_ble_eq_true rfl, Nat.le_of_ble_eq_true rfl⟩) (by decide) (hA.1) rfl rfl hl.1 rfl (by first | exact Nat.le_of_ble_eq_true rfl | decide) dL_1310 ⟨Nat.le_of_ble_eq_true rfl, Nat.le_of_ble_eq_true rfl⟩) hw hS (fun r1 c1 H locs p1 hw hS => ?_)
  have frm := jf_text hA hB hP p1
  refine lv_aload_n hx hb dL_1313 rfl (lv_at hl 2 rfl) ?_
  refine cQi (rV (As := []) ⟨hx, hb, hml, hown, hts⟩ hw (k_X11_text l ((frm 32 (by decide)).trans (hB.1)) ((frm 38 (by decide)).trans (hB.2.2.2.2.2.2.1)) (hP.2.2.2.2.2.1) ((frm 33 (by decide)).trans (hB.2.1)) (hP.1) ((frm 39 (by decide)).trans (hB.2.2.2.2.2.2.2.1))) (cv_X11_text hts tw_1206 rfl rfl ⟨Nat.le_of_ble_eq_true rfl, Nat.le_of_ble_eq_true rfl⟩) (by decide) ((frm 32 (by decide)).trans (hB.1)) rfl rfl hl.1 rfl (by first | exact Nat.le_of_ble_eq_true rfl | decide) dL_1314 ⟨Nat.le_of_ble_eq_true rfl, Nat.le_of_ble_eq_true rfl⟩) hw hS (fun r2 c2 H locs p2 hw hS => ?_)
  have jc := jc_text hA hB hP p1 p2
  refine lv_icmp_eq (tgt := 1630) hx hb dL_1317 (by decide) (fun _ => ?_) (fun q => absurd (jc.1) q)
  exact K _ _ _ (jc.2) hw hS
set_option maxHeartbeats 4000000 in
set_option maxRecDepth 100000 in
theorem lc_31 (hx : p.tables.exec = Jvm.exec) (hb : cd.code = code) (hml : cd.maxLocals = 4) (hown : s.vm.findClass RL = some m.cls) (hts : ∀ w ∈ WT, w.before #[Value.ref b] s = true) (hX : va_X b L xs s s.heap) (hbl : b < s.heap.size) (hbA : ¬ gA G b) (hi : i + 6 ≤ L) (hL : L ≤ 3072) (hJ : JJ G c) (hw : Hw G c s H) (hS : va_S (gA G) s.heap H locs) (hl : lv_has ls 4 [(0, .ref b), (1, .ref (gad G 0)), (2, .ref (gad G 32)), (3, .int (nI i))]) (K : ∀ (c1 : Nat → va_E) (H1 : Heap) (locs1 : List Loc), JJ G c1 → Hw G c1 s H1 → va_S (gA G) s.heap H1 locs1 → W p l e room_1 s m #[Value.ref b] below meth cd H1 locs1 45 2483 Q (F0 m 1630 ls [])) : W p l e room_1 s m #[Value.ref b] below meth cd H locs 45 2483 Q (F0 m 1322 ls []) := by
  obtain ⟨im, iz, z, n, n1, n2, rn, qn, tn, f, f1, f2, rf, rt, qf, qt, tf, ss, sz, sg, si, it, lw, cl, kn, kk, ks, kv, m0, g, hd, sd, fr, tto, tk, wo, hA, hB, hP⟩ := hJ
  refine lv_aload_n hx hb dL_1322 rfl (lv_at hl 1 rfl) ?_
  refine ld5 (k := 1) (kn := 1) hx hb hX hbl hbA hS hi hL hl rfl (by decide) (by decide) dL_1323 dL_1324 dL_1325 dL_1326 dL_1327 ?_
  refine cQi (rV (As := [_]) ⟨hx, hb, hml, hown, hts⟩ hw (k_X10_seed l (hA.1) (hA.2.2.2.2.2.2.2.2.1)) (cv_X10_seed hts tw_783 rfl rfl ⟨Nat.le_of_ble_eq_true rfl, Nat.le_of_ble_eq_true rfl⟩) (by decide) (hA.1) rfl rfl hl.1 rfl (by first | exact Nat.le_of_ble_eq_true rfl | decide) dL_1328 ⟨Nat.le_of_ble_eq_true rfl, Nat.le_of_ble_eq_true rfl⟩) hw hS (fun r1 c1 H locs p1 hw hS => ?_)
  have frm := jf_seed hA hB hP p1
  refine lv_aload_n hx hb dL_1331 rfl (lv_at hl 2 rfl) ?_
  refine ld5 (k := 1) (kn := 1) hx hb hX hbl hbA hS hi hL hl rfl (by decide) (by decide) dL_1332 dL_1333 dL_1334 dL_1335 dL_1336 ?_
  refine cQi (rV (As := [_]) ⟨hx, hb, hml, hown, hts⟩ hw (k_X11_seed l ((frm 32 (by decide)).trans (hB.1))) (cv_X11_seed hts tw_1265 rfl rfl ⟨Nat.le_of_ble_eq_true rfl, Nat.le_of_ble_eq_true rfl⟩) (by decide) ((frm 32 (by decide)).trans (hB.1)) rfl rfl hl.1 rfl (by first | exact Nat.le_of_ble_eq_true rfl | decide) dL_1337 ⟨Nat.le_of_ble_eq_true rfl, Nat.le_of_ble_eq_true rfl⟩) hw hS (fun r2 c2 H locs p2 hw hS => ?_)
  have jc := jc_seed hA hB hP p1 p2
  refine lv_icmp_eq (tgt := 1630) hx hb dL_1340 (by decide) (fun _ => ?_) (fun q => absurd (jc.1) q)
  exact K _ _ _ (jc.2) hw hS
set_option maxHeartbeats 4000000 in
set_option maxRecDepth 100000 in
theorem lc_32 (hx : p.tables.exec = Jvm.exec) (hb : cd.code = code) (hml : cd.maxLocals = 4) (hown : s.vm.findClass RL = some m.cls) (hts : ∀ w ∈ WT, w.before #[Value.ref b] s = true) (hX : va_X b L xs s s.heap) (hbl : b < s.heap.size) (hbA : ¬ gA G b) (hi : i + 6 ≤ L) (hL : L ≤ 3072) (hJ : JJ G c) (hw : Hw G c s H) (hS : va_S (gA G) s.heap H locs) (hl : lv_has ls 4 [(0, .ref b), (1, .ref (gad G 0)), (2, .ref (gad G 32)), (3, .int (nI i))]) (K : ∀ (c1 : Nat → va_E) (H1 : Heap) (locs1 : List Loc), JJ G c1 → Hw G c1 s H1 → va_S (gA G) s.heap H1 locs1 → W p l e room_1 s m #[Value.ref b] below meth cd H1 locs1 45 2483 Q (F0 m 1630 ls [])) : W p l e room_1 s m #[Value.ref b] below meth cd H locs 45 2483 Q (F0 m 1345 ls []) := by
  obtain ⟨im, iz, z, n, n1, n2, rn, qn, tn, f, f1, f2, rf, rt, qf, qt, tf, ss, sz, sg, si, it, lw, cl, kn, kk, ks, kv, m0, g, hd, sd, fr, tto, tk, wo, hA, hB, hP⟩ := hJ
  refine lv_aload_n hx hb dL_1345 rfl (lv_at hl 1 rfl) ?_
  refine ld5 (k := 1) (kn := 1) hx hb hX hbl hbA hS hi hL hl rfl (by decide) (by decide) dL_1346 dL_1347 dL_1348 dL_1349 dL_1350 ?_
  refine ld5 (k := 2) (kn := 2) hx hb hX hbl hbA hS hi hL hl rfl (by decide) (by decide) dL_1351 dL_1352 dL_1353 dL_1354 dL_1355 ?_
  refine ld5 (k := 3) (kn := 3) hx hb hX hbl hbA hS hi hL hl rfl (by decide) (by decide) dL_1356 dL_1357 dL_1358 dL_1359 dL_1360 ?_
  refine cQi (rV (As := [_, _, _]) ⟨hx, hb, hml, hown, hts⟩ hw (k_X10_sheet l (hA.1) (hA.2.2.2.2.2.2.2.2.2.2.2.2.2.2.2.2.2.2.1) (hA.2.2.2.2.2.2.2.2.2.2.2.2.2.2.2.2.2.2.2.1) (hA.2.2.2.2.2.2.2.2.2.2.2.2.2.2.2.2.2.2.2.2.1) (hP.2.2.2.2.2.2.2.2.2.2.1)) (cv_X10_sheet hts tw_787 rfl rfl ⟨Nat.le_of_ble_eq_true rfl, Nat.le_of_ble_eq_true rfl⟩) (by decide) (hA.1) rfl rfl hl.1 rfl (by first | exact Nat.le_of_ble_eq_true rfl | decide) dL_1361 ⟨Nat.le_of_ble_eq_true rfl, Nat.le_of_ble_eq_true rfl⟩) hw hS (fun r1 c1 H locs p1 hw hS => ?_)
  have frm := jf_sheet hA hB hP p1
  refine lv_aload_n hx hb dL_1364 rfl (lv_at hl 2 rfl) ?_
  refine ld5 (k := 1) (kn := 1) hx hb hX hbl hbA hS hi hL hl rfl (by decide) (by decide) dL_1365 dL_1366 dL_1367 dL_1368 dL_1369 ?_
  refine ld5 (k := 2) (kn := 2) hx hb hX hbl hbA hS hi hL hl rfl (by decide) (by decide) dL_1370 dL_1371 dL_1372 dL_1373 dL_1374 ?_
  refine ld5 (k := 3) (kn := 3) hx hb hX hbl hbA hS hi hL hl rfl (by decide) (by decide) dL_1375 dL_1376 dL_1377 dL_1378 dL_1379 ?_
  refine cQi (rV (As := [_, _, _]) ⟨hx, hb, hml, hown, hts⟩ hw (k_X11_sheet l ((frm 32 (by decide)).trans (hB.1)) ((frm 40 (by decide)).trans (hB.2.2.2.2.2.2.2.2.1)) ((frm 41 (by decide)).trans (hB.2.2.2.2.2.2.2.2.2.1)) ((frm 42 (by decide)).trans (hB.2.2.2.2.2.2.2.2.2.2.1))) (cv_X11_sheet hts tw_1269 rfl rfl ⟨Nat.le_of_ble_eq_true rfl, Nat.le_of_ble_eq_true rfl⟩) (by decide) ((frm 32 (by decide)).trans (hB.1)) rfl rfl hl.1 rfl (by first | exact Nat.le_of_ble_eq_true rfl | decide) dL_1380 ⟨Nat.le_of_ble_eq_true rfl, Nat.le_of_ble_eq_true rfl⟩) hw hS (fun r2 c2 H locs p2 hw hS => ?_)
  have jc := jc_sheet hA hB hP p1 p2
  refine lv_icmp_eq (tgt := 1630) hx hb dL_1383 (by decide) (fun _ => ?_) (fun q => absurd (jc.1) q)
  exact K _ _ _ (jc.2) hw hS
set_option maxHeartbeats 4000000 in
set_option maxRecDepth 100000 in
theorem lc_33 (hx : p.tables.exec = Jvm.exec) (hb : cd.code = code) (hml : cd.maxLocals = 4) (hown : s.vm.findClass RL = some m.cls) (hts : ∀ w ∈ WT, w.before #[Value.ref b] s = true) (hX : va_X b L xs s s.heap) (hbl : b < s.heap.size) (hbA : ¬ gA G b) (hi : i + 6 ≤ L) (hL : L ≤ 3072) (hJ : JJ G c) (hw : Hw G c s H) (hS : va_S (gA G) s.heap H locs) (hl : lv_has ls 4 [(0, .ref b), (1, .ref (gad G 0)), (2, .ref (gad G 32)), (3, .int (nI i))]) (K : ∀ (c1 : Nat → va_E) (H1 : Heap) (locs1 : List Loc), JJ G c1 → Hw G c1 s H1 → va_S (gA G) s.heap H1 locs1 → W p l e room_1 s m #[Value.ref b] below meth cd H1 locs1 45 2483 Q (F0 m 1630 ls [])) : W p l e room_1 s m #[Value.ref b] below meth cd H locs 45 2483 Q (F0 m 1388 ls []) := by
  obtain ⟨im, iz, z, n, n1, n2, rn, qn, tn, f, f1, f2, rf, rt, qf, qt, tf, ss, sz, sg, si, it, lw, cl, kn, kk, ks, kv, m0, g, hd, sd, fr, tto, tk, wo, hA, hB, hP⟩ := hJ
  refine lv_aload_n hx hb dL_1388 rfl (lv_at hl 1 rfl) ?_
  refine ld5 (k := 1) (kn := 1) hx hb hX hbl hbA hS hi hL hl rfl (by decide) (by decide) dL_1389 dL_1390 dL_1391 dL_1392 dL_1393 ?_
  refine ld5 (k := 2) (kn := 2) hx hb hX hbl hbA hS hi hL hl rfl (by decide) (by decide) dL_1394 dL_1395 dL_1396 dL_1397 dL_1398 ?_
  refine ld5 (k := 3) (kn := 3) hx hb hX hbl hbA hS hi hL hl rfl (by decide) (by decide) dL_1399 dL_1400 dL_1401 dL_1402 dL_1403 ?_
  refine cQi (rV (As := [_, _, _]) ⟨hx, hb, hml, hown, hts⟩ hw (k_X10_write l (hA.1) (hA.2.2.2.2.2.2.2.2.2.2.2.2.2.2.2.2.2.2.1) (hA.2.2.2.2.2.2.2.2.2.2.2.2.2.2.2.2.2.2.2.1) (hA.2.2.2.2.2.2.2.2.2.2.2.2.2.2.2.2.2.2.2.2.1) (hP.2.2.2.2.2.2.2.2.2.2.1)) (cv_X10_write hts tw_802 rfl rfl ⟨Nat.le_of_ble_eq_true rfl, Nat.le_of_ble_eq_true rfl⟩) (by decide) (hA.1) rfl rfl hl.1 rfl (by first | exact Nat.le_of_ble_eq_true rfl | decide) dL_1404 ⟨Nat.le_of_ble_eq_true rfl, Nat.le_of_ble_eq_true rfl⟩) hw hS (fun r1 c1 H locs p1 hw hS => ?_)
  have frm := jf_write hA hB hP p1
  refine lv_aload_n hx hb dL_1407 rfl (lv_at hl 2 rfl) ?_
  refine ld5 (k := 1) (kn := 1) hx hb hX hbl hbA hS hi hL hl rfl (by decide) (by decide) dL_1408 dL_1409 dL_1410 dL_1411 dL_1412 ?_
  refine ld5 (k := 2) (kn := 2) hx hb hX hbl hbA hS hi hL hl rfl (by decide) (by decide) dL_1413 dL_1414 dL_1415 dL_1416 dL_1417 ?_
  refine ld5 (k := 3) (kn := 3) hx hb hX hbl hbA hS hi hL hl rfl (by decide) (by decide) dL_1418 dL_1419 dL_1420 dL_1421 dL_1422 ?_
  refine cQi (rV (As := [_, _, _]) ⟨hx, hb, hml, hown, hts⟩ hw (k_X11_write l ((frm 32 (by decide)).trans (hB.1)) ((frm 40 (by decide)).trans (hB.2.2.2.2.2.2.2.2.1)) ((frm 41 (by decide)).trans (hB.2.2.2.2.2.2.2.2.2.1)) ((frm 42 (by decide)).trans (hB.2.2.2.2.2.2.2.2.2.2.1)) (hP.2.2.2.2.2.2.2.2.2.1) (hP.2.2.2.2.2.2.2.2.2.2.1)) (cv_X11_write hts tw_1276 rfl rfl ⟨Nat.le_of_ble_eq_true rfl, Nat.le_of_ble_eq_true rfl⟩) (by decide) ((frm 32 (by decide)).trans (hB.1)) rfl rfl hl.1 rfl (by first | exact Nat.le_of_ble_eq_true rfl | decide) dL_1423 ⟨Nat.le_of_ble_eq_true rfl, Nat.le_of_ble_eq_true rfl⟩) hw hS (fun r2 c2 H locs p2 hw hS => ?_)
  have jc := jc_write hA hB hP p1 p2
  refine lv_icmp_eq (tgt := 1630) hx hb dL_1426 (by decide) (fun _ => ?_) (fun q => absurd (jc.1) q)
  exact K _ _ _ (jc.2) hw hS
set_option maxHeartbeats 4000000 in
set_option maxRecDepth 100000 in
theorem lc_34 (hx : p.tables.exec = Jvm.exec) (hb : cd.code = code) (hml : cd.maxLocals = 4) (hown : s.vm.findClass RL = some m.cls) (hts : ∀ w ∈ WT, w.before #[Value.ref b] s = true) (hX : va_X b L xs s s.heap) (hbl : b < s.heap.size) (hbA : ¬ gA G b) (hi : i + 6 ≤ L) (hL : L ≤ 3072) (hJ : JJ G c) (hw : Hw G c s H) (hS : va_S (gA G) s.heap H locs) (hl : lv_has ls 4 [(0, .ref b), (1, .ref (gad G 0)), (2, .ref (gad G 32)), (3, .int (nI i))]) (K : ∀ (c1 : Nat → va_E) (H1 : Heap) (locs1 : List Loc), JJ G c1 → Hw G c1 s H1 → va_S (gA G) s.heap H1 locs1 → W p l e room_1 s m #[Value.ref b] below meth cd H1 locs1 45 2483 Q (F0 m 1630 ls [])) : W p l e room_1 s m #[Value.ref b] below meth cd H locs 45 2483 Q (F0 m 1431 ls []) := by
  obtain ⟨im, iz, z, n, n1, n2, rn, qn, tn, f, f1, f2, rf, rt, qf, qt, tf, ss, sz, sg, si, it, lw, cl, kn, kk, ks, kv, m0, g, hd, sd, fr, tto, tk, wo, hA, hB, hP⟩ := hJ
  refine lv_aload_n hx hb dL_1431 rfl (lv_at hl 1 rfl) ?_
  refine ld5 (k := 1) (kn := 1) hx hb hX hbl hbA hS hi hL hl rfl (by decide) (by decide) dL_1432 dL_1433 dL_1434 dL_1435 dL_1436 ?_
  refine ld5 (k := 2) (kn := 2) hx hb hX hbl hbA hS hi hL hl rfl (by decide) (by decide) dL_1437 dL_1438 dL_1439 dL_1440 dL_1441 ?_
  refine cSL (rV (As := [_, _]) ⟨hx, hb, hml, hown, hts⟩ hw (k_X10_item l (hA.1) (hA.2.2.2.2.2.2.2.2.2.2.2.2.2.2.2.2.2.2.1) (hA.2.2.2.2.2.2.2.2.2.2.2.2.2.2.2.2.2.2.2.1) (hA.2.2.2.2.2.2.2.2.2.2.2.2.2.2.2.2.2.2.2.2.1) (hP.2.2.2.2.2.2.2.2.2.2.1)) (cv_X10_item hts tw_818 rfl rfl ⟨Nat.le_of_ble_eq_true rfl, Nat.le_of_ble_eq_true rfl⟩) (by decide) (hA.1) rfl rfl hl.1 rfl (by first | exact Nat.le_of_ble_eq_true rfl | decide) dL_1442 ⟨Nat.le_of_ble_eq_true rfl, Nat.le_of_ble_eq_true rfl⟩) (fun r1 p1 => ?_)
  refine lv_aload_n hx hb dL_1445 rfl (lv_at hl 2 rfl) ?_
  refine ld5 (k := 1) (kn := 1) hx hb hX hbl hbA hS hi hL hl rfl (by decide) (by decide) dL_1446 dL_1447 dL_1448 dL_1449 dL_1450 ?_
  refine ld5 (k := 2) (kn := 2) hx hb hX hbl hbA hS hi hL hl rfl (by decide) (by decide) dL_1451 dL_1452 dL_1453 dL_1454 dL_1455 ?_
  refine cSL (rV (As := [_, _]) ⟨hx, hb, hml, hown, hts⟩ hw (k_X11_item l (hB.1) (hB.2.2.2.2.2.2.2.2.1) (hB.2.2.2.2.2.2.2.2.2.1) (hB.2.2.2.2.2.2.2.2.2.2.1) (hP.2.2.2.2.2.2.2.2.2.1) (hP.2.2.2.2.2.2.2.2.2.2.1)) (cv_X11_item hts tw_1284 rfl rfl ⟨Nat.le_of_ble_eq_true rfl, Nat.le_of_ble_eq_true rfl⟩) (by decide) (hB.1) rfl rfl hl.1 rfl (by first | exact Nat.le_of_ble_eq_true rfl | decide) dL_1456 ⟨Nat.le_of_ble_eq_true rfl, Nat.le_of_ble_eq_true rfl⟩) (fun r2 p2 => ?_)
  have jc : _ := jc_item hA hB hP p1 p2
  refine W.lcmp hx hb dL_1459 ?_
  refine lv_if_eq (tgt := 1630) hx hb dL_1460 (by decide) (fun _ => ?_) (fun q => absurd (lg_same (jc)) q)
  exact K _ _ _ (⟨im, iz, z, n, n1, n2, rn, qn, tn, f, f1, f2, rf, rt, qf, qt, tf, ss, sz, sg, si, it, lw, cl, kn, kk, ks, kv, m0, g, hd, sd, fr, tto, tk, wo, hA, hB, hP⟩) hw hS
set_option maxHeartbeats 4000000 in
set_option maxRecDepth 100000 in
theorem lc_35 (hx : p.tables.exec = Jvm.exec) (hb : cd.code = code) (hml : cd.maxLocals = 4) (hown : s.vm.findClass RL = some m.cls) (hts : ∀ w ∈ WT, w.before #[Value.ref b] s = true) (hX : va_X b L xs s s.heap) (hbl : b < s.heap.size) (hbA : ¬ gA G b) (hi : i + 6 ≤ L) (hL : L ≤ 3072) (hJ : JJ G c) (hw : Hw G c s H) (hS : va_S (gA G) s.heap H locs) (hl : lv_has ls 4 [(0, .ref b), (1, .ref (gad G 0)), (2, .ref (gad G 32)), (3, .int (nI i))]) (K : ∀ (c1 : Nat → va_E) (H1 : Heap) (locs1 : List Loc), JJ G c1 → Hw G c1 s H1 → va_S (gA G) s.heap H1 locs1 → W p l e room_1 s m #[Value.ref b] below meth cd H1 locs1 45 2483 Q (F0 m 1630 ls [])) : W p l e room_1 s m #[Value.ref b] below meth cd H locs 45 2483 Q (F0 m 1465 ls []) := by
  obtain ⟨im, iz, z, n, n1, n2, rn, qn, tn, f, f1, f2, rf, rt, qf, qt, tf, ss, sz, sg, si, it, lw, cl, kn, kk, ks, kv, m0, g, hd, sd, fr, tto, tk, wo, hA, hB, hP⟩ := hJ
  refine lv_aload_n hx hb dL_1465 rfl (lv_at hl 1 rfl) ?_
  refine ld5 (k := 1) (kn := 1) hx hb hX hbl hbA hS hi hL hl rfl (by decide) (by decide) dL_1466 dL_1467 dL_1468 dL_1469 dL_1470 ?_
  refine ld5 (k := 2) (kn := 2) hx hb hX hbl hbA hS hi hL hl rfl (by decide) (by decide) dL_1471 dL_1472 dL_1473 dL_1474 dL_1475 ?_
  refine ld5 (k := 3) (kn := 3) hx hb hX hbl hbA hS hi hL hl rfl (by decide) (by decide) dL_1476 dL_1477 dL_1478 dL_1479 dL_1480 ?_
  refine ld5 (k := 4) (kn := 4) hx hb hX hbl hbA hS hi hL hl rfl (by decide) (by decide) dL_1481 dL_1482 dL_1483 dL_1484 dL_1485 ?_
  refine ld5 (k := 5) (kn := 5) hx hb hX hbl hbA hS hi hL hl rfl (by decide) (by decide) dL_1486 dL_1487 dL_1488 dL_1489 dL_1490 ?_
  refine cQi (rV (As := [_, _, _, _, _]) ⟨hx, hb, hml, hown, hts⟩ hw (k_X10_copy l (hA.1) (hA.2.2.2.2.2.2.2.2.2.2.2.2.2.2.2.2.2.2.1) (hA.2.2.2.2.2.2.2.2.2.2.2.2.2.2.2.2.2.2.2.1) (hA.2.2.2.2.2.2.2.2.2.2.2.2.2.2.2.2.2.2.2.2.1) (hP.2.2.2.2.2.2.2.2.2.2.1)) (cv_X10_copy hts tw_830 rfl rfl ⟨Nat.le_of_ble_eq_true rfl, Nat.le_of_ble_eq_true rfl⟩) (by decide) (hA.1) rfl rfl hl.1 rfl (by first | exact Nat.le_of_ble_eq_true rfl | decide) dL_1491 ⟨Nat.le_of_ble_eq_true rfl, Nat.le_of_ble_eq_true rfl⟩) hw hS (fun r1 c1 H locs p1 hw hS => ?_)
  have frm := jf_copy hA hB hP p1
  refine lv_aload_n hx hb dL_1494 rfl (lv_at hl 2 rfl) ?_
  refine ld5 (k := 1) (kn := 1) hx hb hX hbl hbA hS hi hL hl rfl (by decide) (by decide) dL_1495 dL_1496 dL_1497 dL_1498 dL_1499 ?_
  refine ld5 (k := 2) (kn := 2) hx hb hX hbl hbA hS hi hL hl rfl (by decide) (by decide) dL_1500 dL_1501 dL_1502 dL_1503 dL_1504 ?_
  refine ld5 (k := 3) (kn := 3) hx hb hX hbl hbA hS hi hL hl rfl (by decide) (by decide) dL_1505 dL_1506 dL_1507 dL_1508 dL_1509 ?_
  refine ld5 (k := 4) (kn := 4) hx hb hX hbl hbA hS hi hL hl rfl (by decide) (by decide) dL_1510 dL_1511 dL_1512 dL_1513 dL_1514 ?_
  refine ld5 (k := 5) (kn := 5) hx hb hX hbl hbA hS hi hL hl rfl (by decide) (by decide) dL_1515 dL_1516 dL_1517 dL_1518 dL_1519 ?_
  refine cQi (rV (As := [_, _, _, _, _]) ⟨hx, hb, hml, hown, hts⟩ hw (k_X11_copy l ((frm 32 (by decide)).trans (hB.1)) ((frm 40 (by decide)).trans (hB.2.2.2.2.2.2.2.2.1)) ((frm 41 (by decide)).trans (hB.2.2.2.2.2.2.2.2.2.1)) ((frm 42 (by decide)).trans (hB.2.2.2.2.2.2.2.2.2.2.1)) (hP.2.2.2.2.2.2.2.2.2.1) (hP.2.2.2.2.2.2.2.2.2.2.1)) (cv_X11_copy hts tw_1290 rfl rfl ⟨Nat.le_of_ble_eq_true rfl, Nat.le_of_ble_eq_true rfl⟩) (by decide) ((frm 32 (by decide)).trans (hB.1)) rfl rfl hl.1 rfl (by first | exact Nat.le_of_ble_eq_true rfl | decide) dL_1520 ⟨Nat.le_of_ble_eq_true rfl, Nat.le_of_ble_eq_true rfl⟩) hw hS (fun r2 c2 H locs p2 hw hS => ?_)
  have jc := jc_copy hA hB hP p1 p2
  refine lv_icmp_eq (tgt := 1630) hx hb dL_1523 (by decide) (fun _ => ?_) (fun q => absurd (jc.1) q)
  exact K _ _ _ (jc.2) hw hS
set_option maxHeartbeats 4000000 in
set_option maxRecDepth 100000 in
theorem lc_36 (hx : p.tables.exec = Jvm.exec) (hb : cd.code = code) (hml : cd.maxLocals = 4) (hown : s.vm.findClass RL = some m.cls) (hts : ∀ w ∈ WT, w.before #[Value.ref b] s = true) (hX : va_X b L xs s s.heap) (hbl : b < s.heap.size) (hbA : ¬ gA G b) (hi : i + 6 ≤ L) (hL : L ≤ 3072) (hJ : JJ G c) (hw : Hw G c s H) (hS : va_S (gA G) s.heap H locs) (hl : lv_has ls 4 [(0, .ref b), (1, .ref (gad G 0)), (2, .ref (gad G 32)), (3, .int (nI i))]) (K : ∀ (c1 : Nat → va_E) (H1 : Heap) (locs1 : List Loc), JJ G c1 → Hw G c1 s H1 → va_S (gA G) s.heap H1 locs1 → W p l e room_1 s m #[Value.ref b] below meth cd H1 locs1 45 2483 Q (F0 m 1630 ls [])) : W p l e room_1 s m #[Value.ref b] below meth cd H locs 45 2483 Q (F0 m 1528 ls []) := by
  obtain ⟨im, iz, z, n, n1, n2, rn, qn, tn, f, f1, f2, rf, rt, qf, qt, tf, ss, sz, sg, si, it, lw, cl, kn, kk, ks, kv, m0, g, hd, sd, fr, tto, tk, wo, hA, hB, hP⟩ := hJ
  refine lv_aload_n hx hb dL_1528 rfl (lv_at hl 1 rfl) ?_
  refine ld5 (k := 1) (kn := 1) hx hb hX hbl hbA hS hi hL hl rfl (by decide) (by decide) dL_1529 dL_1530 dL_1531 dL_1532 dL_1533 ?_
  refine ld5 (k := 2) (kn := 2) hx hb hX hbl hbA hS hi hL hl rfl (by decide) (by decide) dL_1534 dL_1535 dL_1536 dL_1537 dL_1538 ?_
  refine ld5 (k := 3) (kn := 3) hx hb hX hbl hbA hS hi hL hl rfl (by decide) (by decide) dL_1539 dL_1540 dL_1541 dL_1542 dL_1543 ?_
  refine ld5 (k := 4) (kn := 4) hx hb hX hbl hbA hS hi hL hl rfl (by decide) (by decide) dL_1544 dL_1545 dL_1546 dL_1547 dL_1548 ?_
  refine cQi (rV (As := [_, _, _, _]) ⟨hx, hb, hml, hown, hts⟩ hw (k_X10_lay l (hA.1) (hA.2.1) (hA.2.2.1) (hP.1) (hA.2.2.2.2.2.2.2.2.2.2.2.2.2.2.2.2.1) (hA.2.2.2.2.2.2.2.2.2.2.2.2.2.2.2.2.2.1) (hP.2.2.2.2.2.2.2.2.2.2.2.2.2) (hA.2.2.2.2.2.2.2.2.2.2.2.2.2.2.2.2.2.2.1) (hA.2.2.2.2.2.2.2.2.2.2.2.2.2.2.2.2.2.2.2.1) (hA.2.2.2.2.2.2.2.2.2.2.2.2.2.2.2.2.2.2.2.2.1) (hP.2.2.2.2.2.2.2.2.2.2.1)) (cv_X10_lay hts tw_847 rfl rfl ⟨Nat.le_of_ble_eq_true rfl, Nat.le_of_ble_eq_true rfl⟩) (by decide) (hA.1) rfl rfl hl.1 rfl (by first | exact Nat.le_of_ble_eq_true rfl | decide) dL_1549 ⟨Nat.le_of_ble_eq_true rfl, Nat.le_of_ble_eq_true rfl⟩) hw hS (fun r1 c1 H locs p1 hw hS => ?_)
  have frm := jf_lay hA hB hP p1
  refine lv_aload_n hx hb dL_1552 rfl (lv_at hl 2 rfl) ?_
  refine ld5 (k := 1) (kn := 1) hx hb hX hbl hbA hS hi hL hl rfl (by decide) (by decide) dL_1553 dL_1554 dL_1555 dL_1556 dL_1557 ?_
  refine ld5 (k := 2) (kn := 2) hx hb hX hbl hbA hS hi hL hl rfl (by decide) (by decide) dL_1558 dL_1559 dL_1560 dL_1561 dL_1562 ?_
  refine ld5 (k := 3) (kn := 3) hx hb hX hbl hbA hS hi hL hl rfl (by decide) (by decide) dL_1563 dL_1564 dL_1565 dL_1566 dL_1567 ?_
  refine ld5 (k := 4) (kn := 4) hx hb hX hbl hbA hS hi hL hl rfl (by decide) (by decide) dL_1568 dL_1569 dL_1570 dL_1571 dL_1572 ?_
  refine cQi (rV (As := [_, _, _, _]) ⟨hx, hb, hml, hown, hts⟩ hw (k_X11_lay l ((frm 32 (by decide)).trans (hB.1)) ((frm 33 (by decide)).trans (hB.2.1)) (hP.1) ((frm 40 (by decide)).trans (hB.2.2.2.2.2.2.2.2.1)) ((frm 41 (by decide)).trans (hB.2.2.2.2.2.2.2.2.2.1)) ((frm 42 (by decide)).trans (hB.2.2.2.2.2.2.2.2.2.2.1)) (hP.2.2.2.2.2.2.1) (hP.2.2.2.2.2.2.2.2.2.1) (hP.2.2.2.2.2.2.2.2.2.2.1)) (cv_X11_lay hts tw_1294 rfl rfl ⟨Nat.le_of_ble_eq_true rfl, Nat.le_of_ble_eq_true rfl⟩) (by decide) ((frm 32 (by decide)).trans (hB.1)) rfl rfl hl.1 rfl (by first | exact Nat.le_of_ble_eq_true rfl | decide) dL_1573 ⟨Nat.le_of_ble_eq_true rfl, Nat.le_of_ble_eq_true rfl⟩) hw hS (fun r2 c2 H locs p2 hw hS => ?_)
  have jc := jc_lay hA hB hP p1 p2
  refine lv_icmp_eq (tgt := 1630) hx hb dL_1576 (by decide) (fun _ => ?_) (fun q => absurd (jc.1) q)
  exact K _ _ _ (jc.2) hw hS
set_option maxHeartbeats 4000000 in
set_option maxRecDepth 100000 in
theorem lc_37 (hx : p.tables.exec = Jvm.exec) (hb : cd.code = code) (hml : cd.maxLocals = 4) (hown : s.vm.findClass RL = some m.cls) (hts : ∀ w ∈ WT, w.before #[Value.ref b] s = true) (hX : va_X b L xs s s.heap) (hbl : b < s.heap.size) (hbA : ¬ gA G b) (hi : i + 6 ≤ L) (hL : L ≤ 3072) (hJ : JJ G c) (hw : Hw G c s H) (hS : va_S (gA G) s.heap H locs) (hl : lv_has ls 4 [(0, .ref b), (1, .ref (gad G 0)), (2, .ref (gad G 32)), (3, .int (nI i))]) (K : ∀ (c1 : Nat → va_E) (H1 : Heap) (locs1 : List Loc), JJ G c1 → Hw G c1 s H1 → va_S (gA G) s.heap H1 locs1 → W p l e room_1 s m #[Value.ref b] below meth cd H1 locs1 45 2483 Q (F0 m 1630 ls [])) : W p l e room_1 s m #[Value.ref b] below meth cd H locs 45 2483 Q (F0 m 1581 ls []) := by
  obtain ⟨im, iz, z, n, n1, n2, rn, qn, tn, f, f1, f2, rf, rt, qf, qt, tf, ss, sz, sg, si, it, lw, cl, kn, kk, ks, kv, m0, g, hd, sd, fr, tto, tk, wo, hA, hB, hP⟩ := hJ
  refine lv_aload_n hx hb dL_1581 rfl (lv_at hl 1 rfl) ?_
  refine cQi (rV (As := []) ⟨hx, hb, hml, hown, hts⟩ hw (k_X10_image l (hA.1) (hA.2.1) (hA.2.2.1) (hP.1) (hA.2.2.2.2.2.1) (hA.2.2.2.2.2.2.1) (hA.2.2.2.2.2.2.2.1) (hP.2.2.2.1) (hA.2.2.2.2.2.2.2.2.1) (hA.2.2.2.2.2.2.2.2.2.2.2.2.2.2.2.2.2.2.2.2.2.1) (hA.2.2.2.2.2.2.2.2.2.2.2.2.2.2.2.2.2.2.2.2.2.2.1) (hA.2.2.2.2.2.2.2.2.2.2.2.2.2.2.2.2.2.2.2.2.2.2.2.1) (hA.2.2.2.2.2.2.2.2.2.2.2.2.2.2.2.2.2.2.2.2.2.2.2.2.1) (hA.2.2.2.2.2.2.2.2.2.2.2.2.2.2.2.2.2.2.2.2.2.2.2.2.2)) (cv_X10_image hts tw_856 rfl rfl ⟨Nat.le_of_ble_eq_true rfl, Nat.le_of_ble_eq_true rfl⟩) (by decide) (hA.1) rfl rfl hl.1 rfl (by first | exact Nat.le_of_ble_eq_true rfl | decide) dL_1582 ⟨Nat.le_of_ble_eq_true rfl, Nat.le_of_ble_eq_true rfl⟩) hw hS (fun r1 c1 H locs p1 hw hS => ?_)
  have frm := jf_image hA hB hP p1
  refine lv_aload_n hx hb dL_1585 rfl (lv_at hl 2 rfl) ?_
  refine cQi (rV (As := []) ⟨hx, hb, hml, hown, hts⟩ hw (k_X11_image l ((frm 32 (by decide)).trans (hB.1)) ((frm 33 (by decide)).trans (hB.2.1)) (hP.1) ((frm 36 (by decide)).trans (hB.2.2.2.2.1)) ((frm 37 (by decide)).trans (hB.2.2.2.2.2.1)) (hP.2.2.2.1) ((frm 35 (by decide)).trans (hB.2.2.2.1)) ((frm 43 (by decide)).trans (hB.2.2.2.2.2.2.2.2.2.2.2.1)) ((frm 44 (by decide)).trans (hB.2.2.2.2.2.2.2.2.2.2.2.2))) (cv_X11_image hts tw_1298 rfl rfl ⟨Nat.le_of_ble_eq_true rfl, Nat.le_of_ble_eq_true rfl⟩) (by decide) ((frm 32 (by decide)).trans (hB.1)) rfl rfl hl.1 rfl (by first | exact Nat.le_of_ble_eq_true rfl | decide) dL_1586 ⟨Nat.le_of_ble_eq_true rfl, Nat.le_of_ble_eq_true rfl⟩) hw hS (fun r2 c2 H locs p2 hw hS => ?_)
  have jc := jc_image hA hB hP p1 p2
  refine lv_icmp_eq (tgt := 1630) hx hb dL_1589 (by decide) (fun _ => ?_) (fun q => absurd (jc.1) q)
  exact K _ _ _ (jc.2) hw hS
set_option maxHeartbeats 4000000 in
set_option maxRecDepth 100000 in
theorem lc_38 (hx : p.tables.exec = Jvm.exec) (hb : cd.code = code) (hml : cd.maxLocals = 4) (hown : s.vm.findClass RL = some m.cls) (hts : ∀ w ∈ WT, w.before #[Value.ref b] s = true) (hX : va_X b L xs s s.heap) (hbl : b < s.heap.size) (hbA : ¬ gA G b) (hi : i + 6 ≤ L) (hL : L ≤ 3072) (hJ : JJ G c) (hw : Hw G c s H) (hS : va_S (gA G) s.heap H locs) (hl : lv_has ls 4 [(0, .ref b), (1, .ref (gad G 0)), (2, .ref (gad G 32)), (3, .int (nI i))]) (K : ∀ (c1 : Nat → va_E) (H1 : Heap) (locs1 : List Loc), JJ G c1 → Hw G c1 s H1 → va_S (gA G) s.heap H1 locs1 → W p l e room_1 s m #[Value.ref b] below meth cd H1 locs1 45 2483 Q (F0 m 1630 ls [])) : W p l e room_1 s m #[Value.ref b] below meth cd H locs 45 2483 Q (F0 m 1594 ls []) := by
  obtain ⟨im, iz, z, n, n1, n2, rn, qn, tn, f, f1, f2, rf, rt, qf, qt, tf, ss, sz, sg, si, it, lw, cl, kn, kk, ks, kv, m0, g, hd, sd, fr, tto, tk, wo, hA, hB, hP⟩ := hJ
  refine lv_aload_n hx hb dL_1594 rfl (lv_at hl 1 rfl) ?_
  refine cQi (rV (As := []) ⟨hx, hb, hml, hown, hts⟩ hw (k_X10_back l (hA.1) (hA.2.1) (hA.2.2.1) (hP.1) (hA.2.2.2.2.2.1) (hA.2.2.2.2.2.2.1) (hA.2.2.2.2.2.2.2.1) (hP.2.2.2.1) (hA.2.2.2.2.2.2.2.2.1) (hA.2.2.2.2.2.2.2.2.2.2.2.2.2.2.2.2.2.2.2.2.2.1) (hA.2.2.2.2.2.2.2.2.2.2.2.2.2.2.2.2.2.2.2.2.2.2.1) (hA.2.2.2.2.2.2.2.2.2.2.2.2.2.2.2.2.2.2.2.2.2.2.2.1) (hA.2.2.2.2.2.2.2.2.2.2.2.2.2.2.2.2.2.2.2.2.2.2.2.2.1) (hA.2.2.2.2.2.2.2.2.2.2.2.2.2.2.2.2.2.2.2.2.2.2.2.2.2) (hP.2.2.1)) (cv_X10_back hts tw_865 rfl rfl ⟨Nat.le_of_ble_eq_true rfl, Nat.le_of_ble_eq_true rfl⟩) (by decide) (hA.1) rfl rfl hl.1 rfl (by first | exact Nat.le_of_ble_eq_true rfl | decide) dL_1595 ⟨Nat.le_of_ble_eq_true rfl, Nat.le_of_ble_eq_true rfl⟩) hw hS (fun r1 c1 H locs p1 hw hS => ?_)
  have frm := jf_back hA hB hP p1
  refine lv_aload_n hx hb dL_1598 rfl (lv_at hl 2 rfl) ?_
  refine cQi (rV (As := []) ⟨hx, hb, hml, hown, hts⟩ hw (k_X11_back l ((frm 32 (by decide)).trans (hB.1)) ((frm 33 (by decide)).trans (hB.2.1)) (hP.1) ((frm 36 (by decide)).trans (hB.2.2.2.2.1)) ((frm 37 (by decide)).trans (hB.2.2.2.2.2.1)) (hP.2.2.2.1) ((frm 35 (by decide)).trans (hB.2.2.2.1)) ((frm 43 (by decide)).trans (hB.2.2.2.2.2.2.2.2.2.2.2.1)) ((frm 44 (by decide)).trans (hB.2.2.2.2.2.2.2.2.2.2.2.2))) (cv_X11_back hts tw_1305 rfl rfl ⟨Nat.le_of_ble_eq_true rfl, Nat.le_of_ble_eq_true rfl⟩) (by decide) ((frm 32 (by decide)).trans (hB.1)) rfl rfl hl.1 rfl (by first | exact Nat.le_of_ble_eq_true rfl | decide) dL_1599 ⟨Nat.le_of_ble_eq_true rfl, Nat.le_of_ble_eq_true rfl⟩) hw hS (fun r2 c2 H locs p2 hw hS => ?_)
  have jc := jc_back hA hB hP p1 p2
  refine lv_icmp_eq (tgt := 1630) hx hb dL_1602 (by decide) (fun _ => ?_) (fun q => absurd (jc.1) q)
  exact K _ _ _ (jc.2) hw hS
set_option maxHeartbeats 4000000 in
set_option maxRecDepth 100000 in
theorem lc_39 (hx : p.tables.exec = Jvm.exec) (hb : cd.code = code) (hml : cd.maxLocals = 4) (hown : s.vm.findClass RL = some m.cls) (hts : ∀ w ∈ WT, w.before #[Value.ref b] s = true) (hX : va_X b L xs s s.heap) (hbl : b < s.heap.size) (hbA : ¬ gA G b) (hi : i + 6 ≤ L) (hL : L ≤ 3072) (hJ : JJ G c) (hw : Hw G c s H) (hS : va_S (gA G) s.heap H locs) (hl : lv_has ls 4 [(0, .ref b), (1, .ref (gad G 0)), (2, .ref (gad G 32)), (3, .int (nI i))]) (K : ∀ (c1 : Nat → va_E) (H1 : Heap) (locs1 : List Loc), JJ G c1 → Hw G c1 s H1 → va_S (gA G) s.heap H1 locs1 → W p l e room_1 s m #[Value.ref b] below meth cd H1 locs1 45 2483 Q (F0 m 1630 ls [])) : W p l e room_1 s m #[Value.ref b] below meth cd H locs 45 2483 Q (F0 m 1607 ls []) := by
  obtain ⟨im, iz, z, n, n1, n2, rn, qn, tn, f, f1, f2, rf, rt, qf, qt, tf, ss, sz, sg, si, it, lw, cl, kn, kk, ks, kv, m0, g, hd, sd, fr, tto, tk, wo, hA, hB, hP⟩ := hJ
  refine lv_aload_n hx hb dL_1607 rfl (lv_at hl 1 rfl) ?_
  refine ld5 (k := 1) (kn := 1) hx hb hX hbl hbA hS hi hL hl rfl (by decide) (by decide) dL_1608 dL_1609 dL_1610 dL_1611 dL_1612 ?_
  refine cSe (rV (As := [_]) ⟨hx, hb, hml, hown, hts⟩ hw (k_X10_count l (hA.1) (hA.2.1) (hA.2.2.1) (hP.1) (hA.2.2.2.2.2.1) (hA.2.2.2.2.2.2.1) (hA.2.2.2.2.2.2.2.1) (hP.2.2.2.1) (hA.2.2.2.2.2.2.2.2.1) (hA.2.2.2.2.2.2.2.2.2.1) (hA.2.2.2.2.2.2.2.2.2.2.1) (hP.2.2.2.2.2.1)) (cv_X10_count hts tw_869 rfl rfl ⟨Nat.le_of_ble_eq_true rfl, Nat.le_of_ble_eq_true rfl⟩) (by decide) (hA.1) rfl rfl hl.1 rfl (by first | exact Nat.le_of_ble_eq_true rfl | decide) dL_1613 ⟨Nat.le_of_ble_eq_true rfl, Nat.le_of_ble_eq_true rfl⟩) ?_
  refine lv_aload_n hx hb dL_1616 rfl (lv_at hl 2 rfl) ?_
  refine ld5 (k := 1) (kn := 1) hx hb hX hbl hbA hS hi hL hl rfl (by decide) (by decide) dL_1617 dL_1618 dL_1619 dL_1620 dL_1621 ?_
  refine cSe (rV (As := [_]) ⟨hx, hb, hml, hown, hts⟩ hw (k_X11_count l (hB.1)) (cv_X11_count hts tw_1309 rfl rfl ⟨Nat.le_of_ble_eq_true rfl, Nat.le_of_ble_eq_true rfl⟩) (by decide) (hB.1) rfl rfl hl.1 rfl (by first | exact Nat.le_of_ble_eq_true rfl | decide) dL_1622 ⟨Nat.le_of_ble_eq_true rfl, Nat.le_of_ble_eq_true rfl⟩) ?_
  have jc : True := trivial
  refine lv_icmp_eq (tgt := 1630) hx hb dL_1625 (by decide) (fun _ => ?_) (fun q => absurd (rfl) q)
  exact K _ _ _ (⟨im, iz, z, n, n1, n2, rn, qn, tn, f, f1, f2, rf, rt, qf, qt, tf, ss, sz, sg, si, it, lw, cl, kn, kk, ks, kv, m0, g, hd, sd, fr, tto, tk, wo, hA, hB, hP⟩) hw hS
end LC
