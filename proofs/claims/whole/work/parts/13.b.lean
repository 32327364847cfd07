theorem sg_t {s : Bool} (h : s = true) : (if s = true then (-9223372036854775808 : Int64) else 0) = -9223372036854775808 := by rw [if_pos h]
def spShare (f : Nat → Int32) (n : Nat) (a d w : Int32) : Int64 := if (isP a && isDy d && wn w 1 9) = true then (FP.ddiv (FP.i2d (ocm f n (pN a) d)) (FP.i2d w)).toInt64 else -4611686018427387906
def spMean (f : Nat → Int32) (n : Nat) (d z w : Int32) : Int32 := if (isDy d && wn w 1 20) = true then (msum f n d z w.toNatClampNeg).1.toInt32 else -2
def itv (so v : Int32) : Int64 := if so = 0 then (FP.ddiv (FP.i2d v) 4611686018427387904).toInt64 else v.toInt64
/-- the entry of a method that the machine has no entry of its own for -/
theorem enF {l : Launch} {y : MethodName} {rm : Room} {cc : ByteArray} {maxL : Nat} {ret : Option FieldType} {av : List Value} {B : State → Prop} {Qc : Array Value → State → Outcome → State → Prop} {mc ms : Nat} {free : Addr → Prop}
    (hy : plainFor y = true) (hn : (lg_sl av).length ≤ maxL)
    (body : ∀ (p : Program) (e : Env) (s : State) (m : MethodId) (below : List Frame) (meth : Method) (cd : Code) (ls : Array Slot), p.tables.exec = Jvm.exec → cd.code = cc → meth.sig.returnType = ret → cd.maxLocals = maxL → s.vm.findClass y.cls = some m.cls →
      (∀ w ∈ WT, w.before av.toArray s = true) → meth.locks = false → meth.name = y.name → B s → lv_has ls maxL (lv_args 0 av) → W p l e rm s m av.toArray below meth cd s.heap [] 0 0 (MQ below Qc av.toArray s mc ms free) (F0 m 0 ls [])) : Met l y (wv y cc maxL ret) rm (va_Pc av B) Qc mc ms free := by
  refine va_MetF (cc := cc) (maxL := maxL) (ret := ret) hy rfl ?_
  intro p e s m args below meth c s₁ Bd hml hv
  obtain ⟨rfl, hB⟩ := hv
  have hl := lv_entry av (n := maxL) hn
  rw [lg_entry_eq]
  exact body p e s m below meth c _ Bd.exec Bd.bytes Bd.returns hml (findClass_of_methodNamed Bd.named) (wv_t (atoms_spec (ws := wv y cc maxL ret) Bd.pre)) Bd.notSynchronized (name_of_methodNamed Bd.named Bd.method).1 hB hl

theorem cv_Jxe99ae_isNaN_b9ae7 {R : Room} {s : State} {args : Array Value} {own : String} {idx : Nat} {rm : Room} (hts : ∀ w ∈ WT, w.before args s = true) (h1 : Cond.methodLink own idx yJxe99ae_isNaN_b9ae7 ∈ WT) (hrc : rm.cells = 0) (hrs : rm.slots = 0) (hR : rm.frames + 1 ≤ R.frames ∧ 8 + (2 + 11) + rm.locals ≤ R.locals) : CallB R s args own idx yJxe99ae_isNaN_b9ae7 cJxe99ae_isNaN_b9ae7 2 (some .boolean) (wv yJxe99ae_isNaN_b9ae7 cJxe99ae_isNaN_b9ae7 2 (some .boolean)) rm 0 0 1 ∧ (Cond.static yJxe99ae_isNaN_b9ae7).before args s = true := va_cwS 1 hts (gdS h1 tw_1125 tw_15 tw_1126) rfl hrc hrs (by decide +kernel) hR
theorem cv_Jxe99ae_doubleToLongBits_ccdee {R : Room} {s : State} {args : Array Value} {own : String} {idx : Nat} {rm : Room} (hts : ∀ w ∈ WT, w.before args s = true) (h1 : Cond.methodLink own idx yJxe99ae_doubleToLongBits_ccdee ∈ WT) (hrc : rm.cells = 0) (hrs : rm.slots = 0) (hR : rm.frames + 1 ≤ R.frames ∧ 8 + (2 + 11) + rm.locals ≤ R.locals) : CallB R s args own idx yJxe99ae_doubleToLongBits_ccdee cJxe99ae_doubleToLongBits_ccdee 2 (some .long) (wv yJxe99ae_doubleToLongBits_ccdee cJxe99ae_doubleToLongBits_ccdee 2 (some .long)) rm 0 0 1 ∧ (Cond.static yJxe99ae_doubleToLongBits_ccdee).before args s = true := va_cwS 1 hts (gdS h1 tw_1122 tw_15 tw_1123) rfl hrc hrs (by decide +kernel) hR
theorem cv_Jxf58ca_isNaN_12338 {R : Room} {s : State} {args : Array Value} {own : String} {idx : Nat} {rm : Room} (hts : ∀ w ∈ WT, w.before args s = true) (h1 : Cond.methodLink own idx yJxf58ca_isNaN_12338 ∈ WT) (hrc : rm.cells = 0) (hrs : rm.slots = 0) (hR : rm.frames + 1 ≤ R.frames ∧ 8 + (1 + 11) + rm.locals ≤ R.locals) : CallB R s args own idx yJxf58ca_isNaN_12338 cJxf58ca_isNaN_12338 1 (some .boolean) (wv yJxf58ca_isNaN_12338 cJxf58ca_isNaN_12338 1 (some .boolean)) rm 0 0 1 ∧ (Cond.static yJxf58ca_isNaN_12338).before args s = true := va_cwS 1 hts (gdS h1 tw_1148 tw_16 tw_1149) rfl hrc hrs (by decide +kernel) hR
theorem cv_Jxf58ca_floatToIntBits_5c35a {R : Room} {s : State} {args : Array Value} {own : String} {idx : Nat} {rm : Room} (hts : ∀ w ∈ WT, w.before args s = true) (h1 : Cond.methodLink own idx yJxf58ca_floatToIntBits_5c35a ∈ WT) (hrc : rm.cells = 0) (hrs : rm.slots = 0) (hR : rm.frames + 1 ≤ R.frames ∧ 8 + (1 + 11) + rm.locals ≤ R.locals) : CallB R s args own idx yJxf58ca_floatToIntBits_5c35a cJxf58ca_floatToIntBits_5c35a 1 (some .int) (wv yJxf58ca_floatToIntBits_5c35a cJxf58ca_floatToIntBits_5c35a 1 (some .int)) rm 0 0 1 ∧ (Cond.static yJxf58ca_floatToIntBits_5c35a).before args s = true := va_cwS 1 hts (gdS h1 tw_1145 tw_16 tw_1146) rfl hrc hrs (by decide +kernel) hR
set_option maxHeartbeats 4000000 in
set_option maxRecDepth 100000 in
theorem k_Jxe99ae_isNaN_b9ae7 (l : Launch) {d : UInt64} (he : FP.dcmp d d = some .eq) : Met l yJxe99ae_isNaN_b9ae7 (wv yJxe99ae_isNaN_b9ae7 cJxe99ae_isNaN_b9ae7 2 (some .boolean)) ({ frames := 0, cells := 0, slots := 0, locals := 0 } : Room) (va_Pc [.double d] (fun _ => True)) (vp_Si (fun r => r = bi false)) 0 0 (fun _ => False) := by
  refine en (by decide +kernel) (by first | exact Nat.le_of_ble_eq_true rfl | decide) ?_
  intro p e s m below meth cd ls hx hb hr hml hown hts hlocks hnm hw hl
  have hl : lv_has ls 2 [(0, .double d)] := hl
  refine lv_dload_n hx hb dJxe99ae_isNaN_b9ae7_0 rfl (lv_at hl 0 rfl) ?_
  refine lv_dload_n hx hb dJxe99ae_isNaN_b9ae7_1 rfl (lv_at hl 0 rfl) ?_
  refine lv_dcmp hx hb dJxe99ae_isNaN_b9ae7_2 ?_
  refine lv_if_eq (tgt := 10) hx hb dJxe99ae_isNaN_b9ae7_3 (by decide) (fun c3 => ?_) (fun q => absurd (by rw [he]; rfl) q)
  refine lv_iconst (v := 0) hx hb dJxe99ae_isNaN_b9ae7_10 (by decide) ?_
  exact re_S hx hb hr hlocks (rfl) dJxe99ae_isNaN_b9ae7_11 (rfl)
set_option maxHeartbeats 4000000 in
set_option maxRecDepth 100000 in
theorem k_Jxe99ae_doubleToLongBits_ccdee (l : Launch) {d : UInt64} (he : FP.dcmp d d = some .eq) : Met l yJxe99ae_doubleToLongBits_ccdee (wv yJxe99ae_doubleToLongBits_ccdee cJxe99ae_doubleToLongBits_ccdee 2 (some .long)) ({ frames := 1, cells := 0, slots := 0, locals := 26 } : Room) (va_Pc [.double d] (fun _ => True)) (vp_Sl (fun r => r = d.toInt64)) 0 0 (fun _ => False) := by
  refine en (by decide +kernel) (by first | exact Nat.le_of_ble_eq_true rfl | decide) ?_
  intro p e s m below meth cd ls hx hb hr hml hown hts hlocks hnm hw hl
  have hl : lv_has ls 2 [(0, .double d)] := hl
  refine lv_dload_n hx hb dJxe99ae_doubleToLongBits_ccdee_0 rfl (lv_at hl 0 rfl) ?_
  refine cSe (rST (As := [_]) ⟨hx, hb, hml, hown, hts⟩ (k_Jxe99ae_isNaN_b9ae7 l he) (cv_Jxe99ae_isNaN_b9ae7 hts tw_1124 rfl rfl ⟨Nat.le_of_ble_eq_true rfl, Nat.le_of_ble_eq_true rfl⟩) rfl hl.1 rfl (by first | exact Nat.le_of_ble_eq_true rfl | decide) dJxe99ae_doubleToLongBits_ccdee_1 ⟨Nat.zero_le _, Nat.zero_le _⟩) ?_
  refine zb_ne (tgt := 12) hx hb dJxe99ae_doubleToLongBits_ccdee_4 (by decide) (fun q => Bool.noConfusion ((rfl).symm.trans q)) (fun c4 => ?_)
  refine lv_dload_n hx hb dJxe99ae_doubleToLongBits_ccdee_7 rfl (lv_at hl 0 rfl) ?_
  refine vn_d2l hx hb (hml.trans hl.1.symm) hown (hts _ tw_1127) (hts _ tw_1129) (hts _ tw_1128) (hts _ tw_15) (Nat.le_of_ble_eq_true rfl) (by first | exact Nat.le_of_ble_eq_true rfl | decide) dJxe99ae_doubleToLongBits_ccdee_8 ?_
  exact re_SL hx hb hr hlocks dJxe99ae_doubleToLongBits_ccdee_11 (rfl)
set_option maxHeartbeats 4000000 in
set_option maxRecDepth 100000 in
theorem k_Jxf58ca_isNaN_12338 (l : Launch) {d : UInt32} (he : FP.fcmp d d = some .eq) : Met l yJxf58ca_isNaN_12338 (wv yJxf58ca_isNaN_12338 cJxf58ca_isNaN_12338 1 (some .boolean)) ({ frames := 0, cells := 0, slots := 0, locals := 0 } : Room) (va_Pc [.float d] (fun _ => True)) (vp_Si (fun r => r = bi false)) 0 0 (fun _ => False) := by
  refine enF (by decide +kernel) (by first | exact Nat.le_of_ble_eq_true rfl | decide) ?_
  intro p e s m below meth cd ls hx hb hr hml hown hts hlocks hnm hw hl
  have hl : lv_has ls 1 [(0, .float d)] := hl
  refine lv_fload_n hx hb dJxf58ca_isNaN_12338_0 rfl (lv_at hl 0 rfl) ?_
  refine lv_fload_n hx hb dJxf58ca_isNaN_12338_1 rfl (lv_at hl 0 rfl) ?_
  refine lv_fcmp hx hb dJxf58ca_isNaN_12338_2 ?_
  refine lv_if_eq (tgt := 10) hx hb dJxf58ca_isNaN_12338_3 (by decide) (fun c3 => ?_) (fun q => absurd (by rw [he]; rfl) q)
  refine lv_iconst (v := 0) hx hb dJxf58ca_isNaN_12338_10 (by decide) ?_
  exact re_S hx hb hr hlocks (rfl) dJxf58ca_isNaN_12338_11 (rfl)
set_option maxHeartbeats 4000000 in
set_option maxRecDepth 100000 in
theorem k_Jxf58ca_floatToIntBits_5c35a (l : Launch) {d : UInt32} (he : FP.fcmp d d = some .eq) : Met l yJxf58ca_floatToIntBits_5c35a (wv yJxf58ca_floatToIntBits_5c35a cJxf58ca_floatToIntBits_5c35a 1 (some .int)) ({ frames := 1, cells := 0, slots := 0, locals := 26 } : Room) (va_Pc [.float d] (fun _ => True)) (vp_Si (fun r => r = d.toInt32)) 0 0 (fun _ => False) := by
  refine enF (by decide +kernel) (by first | exact Nat.le_of_ble_eq_true rfl | decide) ?_
  intro p e s m below meth cd ls hx hb hr hml hown hts hlocks hnm hw hl
  have hl : lv_has ls 1 [(0, .float d)] := hl
  refine lv_fload_n hx hb dJxf58ca_floatToIntBits_5c35a_0 rfl (lv_at hl 0 rfl) ?_
  refine cSe (rST (As := [_]) ⟨hx, hb, hml, hown, hts⟩ (k_Jxf58ca_isNaN_12338 l he) (cv_Jxf58ca_isNaN_12338 hts tw_1147 rfl rfl ⟨Nat.le_of_ble_eq_true rfl, Nat.le_of_ble_eq_true rfl⟩) rfl hl.1 rfl (by first | exact Nat.le_of_ble_eq_true rfl | decide) dJxf58ca_floatToIntBits_5c35a_1 ⟨Nat.zero_le _, Nat.zero_le _⟩) ?_
  refine zb_ne (tgt := 12) hx hb dJxf58ca_floatToIntBits_5c35a_4 (by decide) (fun q => Bool.noConfusion ((rfl).symm.trans q)) (fun c4 => ?_)
  refine lv_fload_n hx hb dJxf58ca_floatToIntBits_5c35a_7 rfl (lv_at hl 0 rfl) ?_
  refine vn_f2i hx hb (hml.trans hl.1.symm) hown (hts _ tw_1150) (hts _ tw_1152) (hts _ tw_1151) (hts _ tw_16) (Nat.le_of_ble_eq_true rfl) (by first | exact Nat.le_of_ble_eq_true rfl | decide) dJxf58ca_floatToIntBits_5c35a_8 ?_
  exact re_S hx hb hr hlocks (rfl) dJxf58ca_floatToIntBits_5c35a_11 (rfl)
set_option maxHeartbeats 4000000 in
set_option maxRecDepth 100000 in
theorem k_X0_ofDouble_z (l : Launch)  : Met l yX0_ofDouble (wv yX0_ofDouble cX0_ofDouble 9 (some .long)) ({ frames := 0, cells := 0, slots := 0, locals := 0 } : Room) (va_Pc [.double 0] (fun _ => True)) (vp_Sl (fun r => r = 0)) 0 0 (fun _ => False) := by
  refine en (by decide +kernel) (by first | exact Nat.le_of_ble_eq_true rfl | decide) ?_
  intro p e s m below meth cd ls hx hb hr hml hown hts hlocks hnm hw hl
  have hl : lv_has ls 9 [(0, .double 0)] := hl
  refine lv_dload_n hx hb dX0_ofDouble_0 rfl (lv_at hl 0 rfl) ?_
  refine lv_dconst0 hx hb dX0_ofDouble_1 ?_
  refine lv_dcmp hx hb dX0_ofDouble_2 ?_
  refine lv_if_ne (tgt := 8) hx hb dX0_ofDouble_3 (by decide) (fun q => absurd (by decide +kernel) q) (fun c3 => ?_)
  refine lv_lconst (v := 0) hx hb dX0_ofDouble_6 rfl ?_
  exact re_SL hx hb hr hlocks dX0_ofDouble_7 (rfl)
set_option maxHeartbeats 4000000 in
set_option maxRecDepth 100000 in
theorem k_X0_ofDouble (l : Launch) {d : UInt64} {s0 : Bool} {c : Nat} {q : Int} (h : is64 d s0 c q) (hq1 : -92 ≤ q) (hq2 : q ≤ -12) : Met l yX0_ofDouble (wv yX0_ofDouble cX0_ofDouble 9 (some .long)) ({ frames := 0, cells := 0, slots := 0, locals := 0 } : Room) (va_Pc [.double d] (fun _ => True)) (vp_Sl (fun r => r = d.toInt64)) 0 0 (fun _ => False) := by
  refine en (by decide +kernel) (by first | exact Nat.le_of_ble_eq_true rfl | decide) ?_
  intro p e s m below meth cd ls hx hb hr hml hown hts hlocks hnm hw hl
  have hl : lv_has ls 9 [(0, .double d)] := hl
  rcases Bool.eq_false_or_eq_true s0 with rfl | rfl
  · refine lv_dload_n hx hb dX0_ofDouble_0 rfl (lv_at hl 0 rfl) ?_
    refine lv_dconst0 hx hb dX0_ofDouble_1 ?_
    refine lv_dcmp hx hb dX0_ofDouble_2 ?_
    refine lv_if_ne (tgt := 8) hx hb dX0_ofDouble_3 (by decide) (fun c3 => ?_) (fun q => absurd q (by rw [cm_zero h]; decide))
    refine lv_dload_n hx hb dX0_ofDouble_8 rfl (lv_at hl 0 rfl) ?_
    refine lv_dconst0 hx hb dX0_ofDouble_9 ?_
    refine lv_dcmp hx hb dX0_ofDouble_10 ?_
    refine lv_if_ge (tgt := 20) hx hb dX0_ofDouble_11 (by decide) (fun q => absurd q (by rw [cm_zero h]; decide)) (fun c11 => ?_)
    refine lv_ldc2 (v := (-9223372036854775808)) hx hb hown (hts _ tw_449) dX0_ofDouble_14 ?_
    refine lv_goto (tgt := 21) hx hb dX0_ofDouble_17 (by decide) ?_
    refine lv_lstore_n (lv' := [(2, _), (0, _)]) hx hb dX0_ofDouble_21 rfl hl (by decide) rfl (fun ls hl => ?_)
    refine lv_dload_n hx hb dX0_ofDouble_22 rfl (lv_at hl 1 rfl) ?_
    refine lv_dconst0 hx hb dX0_ofDouble_23 ?_
    refine lv_dcmp hx hb dX0_ofDouble_24 ?_
    refine lv_if_ge (tgt := 33) hx hb dX0_ofDouble_25 (by decide) (fun q => absurd q (by rw [cm_zero h]; decide)) (fun c25 => ?_)
    refine lv_dload_n hx hb dX0_ofDouble_28 rfl (lv_at hl 1 rfl) ?_
    refine lv_dneg hx hb dX0_ofDouble_29 ?_
    refine lv_goto (tgt := 34) hx hb dX0_ofDouble_30 (by decide) ?_
    obtain ⟨x0, hx0⟩ : ∃ z9, z9 = FP.dneg d := ⟨_, rfl⟩
    have hm : is64 x0 false c q := by rw [hx0]; exact ng64 h
    refine tpv (y := .double x0) (by rw [hx0]) ?_
    refine lv_dstore (lv' := [(4, _), (2, _), (0, _)]) hx hb dX0_ofDouble_34 hl (by decide) rfl (fun ls hl => ?_)
    refine lv_ldc2 (v := 1023) hx hb hown (hts _ tw_450) dX0_ofDouble_36 ?_
    refine tpv (y := .long (lI (1023 + 0))) rfl ?_
    refine lv_lstore (lv' := [(6, _), (4, _), (2, _), (0, _)]) hx hb dX0_ofDouble_39 hl (by decide) rfl (fun ls hl => ?_)
    refine lv_iconst (v := 0) hx hb dX0_ofDouble_41 (by decide) ?_
    refine lv_istore (lv' := [(8, _), (6, _), (4, _), (2, _), (0, _)]) hx hb dX0_ofDouble_42 hl (by decide) rfl (fun ls hl => ?_)
    have L44 : ∀ (N : Nat) (i : Nat) (x : UInt64), (i + N = 40) → (is64 x false c (q - (i : Int))) → (i = 0 ∨ -52 ≤ q - (i : Int)) → ∀ ls : Array Slot, lv_has ls 9 [(8, .int (nI i)), (6, .long (lI (1023 + i))), (4, .double x), (2, .long (-9223372036854775808)), (0, .double d)] → W p l e ({ frames := 0, cells := 0, slots := 0, locals := 0 } : Room) s m (([.double d] : List Value).toArray) below meth cd s.heap [] 0 0 (MQ below (vp_Sl (fun r => r = d.toInt64)) ([.double d] : List Value).toArray s 0 0 (fun _ => False)) (F0 m 44 ls []) := by
      intro N
      induction N with
      | zero =>
        intro i  x  hN hi hg ls hl
        have hlt : q - (i : Int) < -51 := by omega
        refine lv_iload hx hb dX0_ofDouble_44 (lv_at hl 0 rfl) ?_
        refine lv_bipush (v := 40) hx hb dX0_ofDouble_46 (by decide) ?_
        refine lv_icmp_ge (tgt := 80) hx hb dX0_ofDouble_48 (by decide) (fun c48 => ?_) (fun q => absurd (nI_le (a := 40) (by omega) (by omega)) q)
        refine lv_iconst (v := 0) hx hb dX0_ofDouble_80 (by decide) ?_
        refine lv_istore (lv' := [(8, _), (6, _), (4, _), (2, _), (0, _)]) hx hb dX0_ofDouble_81 hl (by decide) rfl (fun ls hl => ?_)
        have L83 : ∀ (N : Nat) (j : Nat) (y : UInt64), (j + N = 40) → (is64 y false c (q - (i : Int) + (j : Int))) → (j = 0 ∨ q - (i : Int) + (j : Int) ≤ -52) → ∀ ls : Array Slot, lv_has ls 9 [(8, .int (nI j)), (6, .long (lI (1023 + i - j))), (4, .double y), (2, .long (-9223372036854775808)), (0, .double d)] → W p l e ({ frames := 0, cells := 0, slots := 0, locals := 0 } : Room) s m (([.double d] : List Value).toArray) below meth cd s.heap [] 0 0 (MQ below (vp_Sl (fun r => r = d.toInt64)) ([.double d] : List Value).toArray s 0 0 (fun _ => False)) (F0 m 83 ls []) := by
          intro N
          induction N with
          | zero =>
            intro j  y  hN2 hj hg2 ls hl
            have hqe : q - (i : Int) + (j : Int) = -52 := by omega
            refine lv_iload hx hb dX0_ofDouble_83 (lv_at hl 0 rfl) ?_
            refine lv_bipush (v := 40) hx hb dX0_ofDouble_85 (by decide) ?_
            refine lv_icmp_ge (tgt := 117) hx hb dX0_ofDouble_87 (by decide) (fun c87 => ?_) (fun q => absurd (nI_le (a := 40) (by omega) (by omega)) q)
            refine lv_lload_n hx hb dX0_ofDouble_117 rfl (lv_at hl 3 rfl) ?_
            refine lv_lload hx hb dX0_ofDouble_118 (lv_at hl 1 rfl) ?_
            refine lv_bipush (v := 52) hx hb dX0_ofDouble_120 (by decide) ?_
            refine lv_lshl hx hb dX0_ofDouble_122 rfl ?_
            refine lv_lor hx hb dX0_ofDouble_123 ?_
            have hjj : is64 y false c (-52) := by rw [← hqe]; exact hj
            refine lv_dload hx hb dX0_ofDouble_124 (lv_at hl 2 rfl) ?_
            refine lv_dconst1 hx hb dX0_ofDouble_126 ?_
            refine lv_dsub hx hb dX0_ofDouble_127 ((fr64 hjj).1) ?_
            refine lv_ldc2d (v := 4841369599423283200) hx hb hown (hts _ tw_452) dX0_ofDouble_128 ?_
            refine lv_dmul hx hb dX0_ofDouble_131 ((fr64 hjj).2.1) ?_
            refine lv_d2l hx hb dX0_ofDouble_132 ?_
            refine tpv (y := .long (lI (c - 4503599627370496))) (congrArg Value.long (fr64 hjj).2.2) ?_
            refine lv_lor hx hb dX0_ofDouble_133 ?_
            exact re_SL hx hb hr hlocks dX0_ofDouble_134 (by rw [h.i64, if_pos rfl, show (q + 1075).toNat = 1023 + i - j by omega])
          | succ N ih =>
            intro j  y  hN2 hj hg2 ls hl
            refine lv_iload hx hb dX0_ofDouble_83 (lv_at hl 0 rfl) ?_
            refine lv_bipush (v := 40) hx hb dX0_ofDouble_85 (by decide) ?_
            refine lv_icmp_ge (tgt := 117) hx hb dX0_ofDouble_87 (by decide) (fun q => absurd q (nI_ge (b := 40) (by omega) (by omega))) (fun c87 => ?_)
            refine lv_dload hx hb dX0_ofDouble_90 (lv_at hl 2 rfl) ?_
            refine lv_dconst1 hx hb dX0_ofDouble_92 ?_
            refine lv_dcmp hx hb dX0_ofDouble_93 ?_
            refine lv_if_ge (tgt := 117) hx hb dX0_ofDouble_94 (by decide) (fun c94 => ?_) (fun c94 => ?_)
            · have hqe : q - (i : Int) + (j : Int) = -52 := by
                rcases cm_one hj with ⟨-, e9⟩ | ⟨g9, -⟩
                · rw [e9] at c94; exact absurd c94 (by decide)
                · omega
              refine lv_lload_n hx hb dX0_ofDouble_117 rfl (lv_at hl 3 rfl) ?_
              refine lv_lload hx hb dX0_ofDouble_118 (lv_at hl 1 rfl) ?_
              refine lv_bipush (v := 52) hx hb dX0_ofDouble_120 (by decide) ?_
              refine lv_lshl hx hb dX0_ofDouble_122 rfl ?_
              refine lv_lor hx hb dX0_ofDouble_123 ?_
              have hjj : is64 y false c (-52) := by rw [← hqe]; exact hj
              refine lv_dload hx hb dX0_ofDouble_124 (lv_at hl 2 rfl) ?_
              refine lv_dconst1 hx hb dX0_ofDouble_126 ?_
              refine lv_dsub hx hb dX0_ofDouble_127 ((fr64 hjj).1) ?_
              refine lv_ldc2d (v := 4841369599423283200) hx hb hown (hts _ tw_452) dX0_ofDouble_128 ?_
              refine lv_dmul hx hb dX0_ofDouble_131 ((fr64 hjj).2.1) ?_
              refine lv_d2l hx hb dX0_ofDouble_132 ?_
              refine tpv (y := .long (lI (c - 4503599627370496))) (congrArg Value.long (fr64 hjj).2.2) ?_
              refine lv_lor hx hb dX0_ofDouble_133 ?_
              exact re_SL hx hb hr hlocks dX0_ofDouble_134 (by rw [h.i64, if_pos rfl, show (q + 1075).toNat = 1023 + i - j by omega])
            · have hlt2 : q - (i : Int) + (j : Int) < -52 := by
                rcases cm_one hj with ⟨g9, -⟩ | ⟨-, e9 | e9⟩
                · exact g9
                · rw [e9] at c94; exact absurd (by decide) c94
                · rw [e9] at c94; exact absurd (by decide) c94
              have hh := db64 hj (by omega)
              refine lv_dload hx hb dX0_ofDouble_97 (lv_at hl 2 rfl) ?_
              refine lv_ldc2d (v := 4611686018427387904) hx hb hown (hts _ tw_451) dX0_ofDouble_99 ?_
              refine lv_dmul hx hb dX0_ofDouble_102 (hh.nan) ?_
              refine lv_dstore (lv' := [(4, _), (8, _), (6, _), (2, _), (0, _)]) hx hb dX0_ofDouble_103 hl (by decide) rfl (fun ls hl => ?_)
              refine lv_lload hx hb dX0_ofDouble_105 (lv_at hl 2 rfl) ?_
              refine lv_lconst (v := 1) hx hb dX0_ofDouble_107 rfl ?_
              refine lv_lsub hx hb dX0_ofDouble_108 ?_
              refine tpv (y := .long (lI (1023 + i - (j + 1)))) (congrArg Value.long ((lI_sub (a := 1023 + i - j) (b := 1) (by omega)).trans (congrArg lI (by omega)))) ?_
              refine lv_lstore (lv' := [(6, _), (4, _), (8, _), (2, _), (0, _)]) hx hb dX0_ofDouble_109 hl (by decide) rfl (fun ls hl => ?_)
              refine lv_iinc (v := nI (j + 1)) (lv' := [(8, _), (6, _), (4, _), (2, _), (0, _)]) hx hb dX0_ofDouble_111 hl (k := 2) rfl (inc1 j) (by decide) rfl (fun ls hl => ?_)
              refine lv_goto (tgt := 83) hx hb dX0_ofDouble_114 (by decide) ?_
              exact ih (j + 1) _ (by omega) (by rw [show q - (i : Int) + ((j + 1 : Nat) : Int) = q - (i : Int) + (j : Int) + 1 by omega]; exact hh) (by omega) ls (lv_sub hl [0, 1, 2, 3, 4] rfl)
        exact L83 40 0 x (by omega) (by rw [show q - (i : Int) + ((0 : Nat) : Int) = q - (i : Int) by omega]; exact hi) (Or.inl rfl) ls (lv_sub hl [0, 1, 2, 3, 4] rfl)
      | succ N ih =>
        intro i  x  hN hi hg ls hl
        refine lv_iload hx hb dX0_ofDouble_44 (lv_at hl 0 rfl) ?_
        refine lv_bipush (v := 40) hx hb dX0_ofDouble_46 (by decide) ?_
        refine lv_icmp_ge (tgt := 80) hx hb dX0_ofDouble_48 (by decide) (fun q => absurd q (nI_ge (b := 40) (by omega) (by omega))) (fun c48 => ?_)
        refine lv_dload hx hb dX0_ofDouble_51 (lv_at hl 2 rfl) ?_
        refine lv_ldc2d (v := 4611686018427387904) hx hb hown (hts _ tw_451) dX0_ofDouble_53 ?_
        refine lv_dcmp hx hb dX0_ofDouble_56 ?_
        refine lv_if_lt (tgt := 80) hx hb dX0_ofDouble_57 (by decide) (fun c57 => ?_) (fun c57 => ?_)
        · have hlt : q - (i : Int) < -51 := by
            rcases cm_two hi with ⟨g9, -⟩ | ⟨-, e9 | e9⟩
            · exact g9
            · rw [e9] at c57; exact absurd c57 (by decide)
            · rw [e9] at c57; exact absurd c57 (by decide)
          refine lv_iconst (v := 0) hx hb dX0_ofDouble_80 (by decide) ?_
          refine lv_istore (lv' := [(8, _), (6, _), (4, _), (2, _), (0, _)]) hx hb dX0_ofDouble_81 hl (by decide) rfl (fun ls hl => ?_)
          have L83 : ∀ (N : Nat) (j : Nat) (y : UInt64), (j + N = 40) → (is64 y false c (q - (i : Int) + (j : Int))) → (j = 0 ∨ q - (i : Int) + (j : Int) ≤ -52) → ∀ ls : Array Slot, lv_has ls 9 [(8, .int (nI j)), (6, .long (lI (1023 + i - j))), (4, .double y), (2, .long (-9223372036854775808)), (0, .double d)] → W p l e ({ frames := 0, cells := 0, slots := 0, locals := 0 } : Room) s m (([.double d] : List Value).toArray) below meth cd s.heap [] 0 0 (MQ below (vp_Sl (fun r => r = d.toInt64)) ([.double d] : List Value).toArray s 0 0 (fun _ => False)) (F0 m 83 ls []) := by
            intro N
            induction N with
            | zero =>
              intro j  y  hN2 hj hg2 ls hl
              have hqe : q - (i : Int) + (j : Int) = -52 := by omega
              refine lv_iload hx hb dX0_ofDouble_83 (lv_at hl 0 rfl) ?_
              refine lv_bipush (v := 40) hx hb dX0_ofDouble_85 (by decide) ?_
              refine lv_icmp_ge (tgt := 117) hx hb dX0_ofDouble_87 (by decide) (fun c87 => ?_) (fun q => absurd (nI_le (a := 40) (by omega) (by omega)) q)
              refine lv_lload_n hx hb dX0_ofDouble_117 rfl (lv_at hl 3 rfl) ?_
              refine lv_lload hx hb dX0_ofDouble_118 (lv_at hl 1 rfl) ?_
              refine lv_bipush (v := 52) hx hb dX0_ofDouble_120 (by decide) ?_
              refine lv_lshl hx hb dX0_ofDouble_122 rfl ?_
              refine lv_lor hx hb dX0_ofDouble_123 ?_
              have hjj : is64 y false c (-52) := by rw [← hqe]; exact hj
              refine lv_dload hx hb dX0_ofDouble_124 (lv_at hl 2 rfl) ?_
              refine lv_dconst1 hx hb dX0_ofDouble_126 ?_
              refine lv_dsub hx hb dX0_ofDouble_127 ((fr64 hjj).1) ?_
              refine lv_ldc2d (v := 4841369599423283200) hx hb hown (hts _ tw_452) dX0_ofDouble_128 ?_
              refine lv_dmul hx hb dX0_ofDouble_131 ((fr64 hjj).2.1) ?_
              refine lv_d2l hx hb dX0_ofDouble_132 ?_
              refine tpv (y := .long (lI (c - 4503599627370496))) (congrArg Value.long (fr64 hjj).2.2) ?_
              refine lv_lor hx hb dX0_ofDouble_133 ?_
              exact re_SL hx hb hr hlocks dX0_ofDouble_134 (by rw [h.i64, if_pos rfl, show (q + 1075).toNat = 1023 + i - j by omega])
            | succ N ih =>
              intro j  y  hN2 hj hg2 ls hl
              refine lv_iload hx hb dX0_ofDouble_83 (lv_at hl 0 rfl) ?_
              refine lv_bipush (v := 40) hx hb dX0_ofDouble_85 (by decide) ?_
              refine lv_icmp_ge (tgt := 117) hx hb dX0_ofDouble_87 (by decide) (fun q => absurd q (nI_ge (b := 40) (by omega) (by omega))) (fun c87 => ?_)
              refine lv_dload hx hb dX0_ofDouble_90 (lv_at hl 2 rfl) ?_
              refine lv_dconst1 hx hb dX0_ofDouble_92 ?_
              refine lv_dcmp hx hb dX0_ofDouble_93 ?_
              refine lv_if_ge (tgt := 117) hx hb dX0_ofDouble_94 (by decide) (fun c94 => ?_) (fun c94 => ?_)
              · have hqe : q - (i : Int) + (j : Int) = -52 := by
                  rcases cm_one hj with ⟨-, e9⟩ | ⟨g9, -⟩
                  · rw [e9] at c94; exact absurd c94 (by decide)
                  · omega
                refine lv_lload_n hx hb dX0_ofDouble_117 rfl (lv_at hl 3 rfl) ?_
                refine lv_lload hx hb dX0_ofDouble_118 (lv_at hl 1 rfl) ?_
                refine lv_bipush (v := 52) hx hb dX0_ofDouble_120 (by decide) ?_
                refine lv_lshl hx hb dX0_ofDouble_122 rfl ?_
                refine lv_lor hx hb dX0_ofDouble_123 ?_
                have hjj : is64 y false c (-52) := by rw [← hqe]; exact hj
                refine lv_dload hx hb dX0_ofDouble_124 (lv_at hl 2 rfl) ?_
                refine lv_dconst1 hx hb dX0_ofDouble_126 ?_
                refine lv_dsub hx hb dX0_ofDouble_127 ((fr64 hjj).1) ?_
                refine lv_ldc2d (v := 4841369599423283200) hx hb hown (hts _ tw_452) dX0_ofDouble_128 ?_
                refine lv_dmul hx hb dX0_ofDouble_131 ((fr64 hjj).2.1) ?_
                refine lv_d2l hx hb dX0_ofDouble_132 ?_
                refine tpv (y := .long (lI (c - 4503599627370496))) (congrArg Value.long (fr64 hjj).2.2) ?_
                refine lv_lor hx hb dX0_ofDouble_133 ?_
                exact re_SL hx hb hr hlocks dX0_ofDouble_134 (by rw [h.i64, if_pos rfl, show (q + 1075).toNat = 1023 + i - j by omega])
              · have hlt2 : q - (i : Int) + (j : Int) < -52 := by
                  rcases cm_one hj with ⟨g9, -⟩ | ⟨-, e9 | e9⟩
                  · exact g9
                  · rw [e9] at c94; exact absurd (by decide) c94
                  · rw [e9] at c94; exact absurd (by decide) c94
                have hh := db64 hj (by omega)
                refine lv_dload hx hb dX0_ofDouble_97 (lv_at hl 2 rfl) ?_
                refine lv_ldc2d (v := 4611686018427387904) hx hb hown (hts _ tw_451) dX0_ofDouble_99 ?_
                refine lv_dmul hx hb dX0_ofDouble_102 (hh.nan) ?_
                refine lv_dstore (lv' := [(4, _), (8, _), (6, _), (2, _), (0, _)]) hx hb dX0_ofDouble_103 hl (by decide) rfl (fun ls hl => ?_)
                refine lv_lload hx hb dX0_ofDouble_105 (lv_at hl 2 rfl) ?_
                refine lv_lconst (v := 1) hx hb dX0_ofDouble_107 rfl ?_
                refine lv_lsub hx hb dX0_ofDouble_108 ?_
                refine tpv (y := .long (lI (1023 + i - (j + 1)))) (congrArg Value.long ((lI_sub (a := 1023 + i - j) (b := 1) (by omega)).trans (congrArg lI (by omega)))) ?_
                refine lv_lstore (lv' := [(6, _), (4, _), (8, _), (2, _), (0, _)]) hx hb dX0_ofDouble_109 hl (by decide) rfl (fun ls hl => ?_)
                refine lv_iinc (v := nI (j + 1)) (lv' := [(8, _), (6, _), (4, _), (2, _), (0, _)]) hx hb dX0_ofDouble_111 hl (k := 2) rfl (inc1 j) (by decide) rfl (fun ls hl => ?_)
                refine lv_goto (tgt := 83) hx hb dX0_ofDouble_114 (by decide) ?_
                exact ih (j + 1) _ (by omega) (by rw [show q - (i : Int) + ((j + 1 : Nat) : Int) = q - (i : Int) + (j : Int) + 1 by omega]; exact hh) (by omega) ls (lv_sub hl [0, 1, 2, 3, 4] rfl)
          exact L83 40 0 x (by omega) (by rw [show q - (i : Int) + ((0 : Nat) : Int) = q - (i : Int) by omega]; exact hi) (Or.inl rfl) ls (lv_sub hl [0, 1, 2, 3, 4] rfl)
        · have hge : -51 ≤ q - (i : Int) := by
            rcases cm_two hi with ⟨-, e9⟩ | ⟨g9, -⟩
            · rw [e9] at c57; exact absurd (show (Op.cmpValue (some .lt) .l : Int32) < 0 by decide) c57
            · exact g9
          have hh := hv64 hi (by omega)
          refine lv_dload hx hb dX0_ofDouble_60 (lv_at hl 2 rfl) ?_
          refine lv_ldc2d (v := 4611686018427387904) hx hb hown (hts _ tw_451) dX0_ofDouble_62 ?_
          refine lv_ddiv hx hb dX0_ofDouble_65 (hh.nan) ?_
          refine lv_dstore (lv' := [(4, _), (8, _), (6, _), (2, _), (0, _)]) hx hb dX0_ofDouble_66 hl (by decide) rfl (fun ls hl => ?_)
          refine lv_lload hx hb dX0_ofDouble_68 (lv_at hl 2 rfl) ?_
          refine lv_lconst (v := 1) hx hb dX0_ofDouble_70 rfl ?_
          refine lv_ladd hx hb dX0_ofDouble_71 ?_
          refine tpv (y := .long (lI (1023 + (i + 1)))) (congrArg Value.long (lI_add (1023 + i) 1)) ?_
          refine lv_lstore (lv' := [(6, _), (4, _), (8, _), (2, _), (0, _)]) hx hb dX0_ofDouble_72 hl (by decide) rfl (fun ls hl => ?_)
          refine lv_iinc (v := nI (i + 1)) (lv' := [(8, _), (6, _), (4, _), (2, _), (0, _)]) hx hb dX0_ofDouble_74 hl (k := 2) rfl (inc1 i) (by decide) rfl (fun ls hl => ?_)
          refine lv_goto (tgt := 44) hx hb dX0_ofDouble_77 (by decide) ?_
          exact ih (i + 1) _ (by omega) (by rw [show q - ((i + 1 : Nat) : Int) = q - (i : Int) - 1 by omega]; exact hh) (by omega) ls (lv_sub hl [0, 1, 2, 3, 4] rfl)
    exact L44 40 0 x0 (by omega) (by rw [show q - ((0 : Nat) : Int) = q by omega]; exact hm) (Or.inl rfl) ls (lv_sub hl [0, 1, 2, 3, 4] rfl)
  · refine lv_dload_n hx hb dX0_ofDouble_0 rfl (lv_at hl 0 rfl) ?_
    refine lv_dconst0 hx hb dX0_ofDouble_1 ?_
    refine lv_dcmp hx hb dX0_ofDouble_2 ?_
    refine lv_if_ne (tgt := 8) hx hb dX0_ofDouble_3 (by decide) (fun c3 => ?_) (fun q => absurd q (by rw [cm_zero h]; decide))
    refine lv_dload_n hx hb dX0_ofDouble_8 rfl (lv_at hl 0 rfl) ?_
    refine lv_dconst0 hx hb dX0_ofDouble_9 ?_
    refine lv_dcmp hx hb dX0_ofDouble_10 ?_
    refine lv_if_ge (tgt := 20) hx hb dX0_ofDouble_11 (by decide) (fun c11 => ?_) (fun q => absurd (by rw [cm_zero h]; decide) q)
    refine lv_lconst (v := 0) hx hb dX0_ofDouble_20 rfl ?_
    refine lv_lstore_n (lv' := [(2, _), (0, _)]) hx hb dX0_ofDouble_21 rfl hl (by decide) rfl (fun ls hl => ?_)
    refine lv_dload_n hx hb dX0_ofDouble_22 rfl (lv_at hl 1 rfl) ?_
    refine lv_dconst0 hx hb dX0_ofDouble_23 ?_
    refine lv_dcmp hx hb dX0_ofDouble_24 ?_
    refine lv_if_ge (tgt := 33) hx hb dX0_ofDouble_25 (by decide) (fun c25 => ?_) (fun q => absurd (by rw [cm_zero h]; decide) q)
    refine lv_dload_n hx hb dX0_ofDouble_33 rfl (lv_at hl 1 rfl) ?_
    obtain ⟨x0, hx0⟩ : ∃ z9, z9 = d := ⟨_, rfl⟩
    have hm : is64 x0 false c q := by rw [hx0]; exact h
    refine tpv (y := .double x0) (by rw [hx0]) ?_
    refine lv_dstore (lv' := [(4, _), (2, _), (0, _)]) hx hb dX0_ofDouble_34 hl (by decide) rfl (fun ls hl => ?_)
    refine lv_ldc2 (v := 1023) hx hb hown (hts _ tw_450) dX0_ofDouble_36 ?_
    refine tpv (y := .long (lI (1023 + 0))) rfl ?_
    refine lv_lstore (lv' := [(6, _), (4, _), (2, _), (0, _)]) hx hb dX0_ofDouble_39 hl (by decide) rfl (fun ls hl => ?_)
    refine lv_iconst (v := 0) hx hb dX0_ofDouble_41 (by decide) ?_
    refine lv_istore (lv' := [(8, _), (6, _), (4, _), (2, _), (0, _)]) hx hb dX0_ofDouble_42 hl (by decide) rfl (fun ls hl => ?_)
    have L44 : ∀ (N : Nat) (i : Nat) (x : UInt64), (i + N = 40) → (is64 x false c (q - (i : Int))) → (i = 0 ∨ -52 ≤ q - (i : Int)) → ∀ ls : Array Slot, lv_has ls 9 [(8, .int (nI i)), (6, .long (lI (1023 + i))), (4, .double x), (2, .long 0), (0, .double d)] → W p l e ({ frames := 0, cells := 0, slots := 0, locals := 0 } : Room) s m (([.double d] : List Value).toArray) below meth cd s.heap [] 0 0 (MQ below (vp_Sl (fun r => r = d.toInt64)) ([.double d] : List Value).toArray s 0 0 (fun _ => False)) (F0 m 44 ls []) := by
      intro N
      induction N with
      | zero =>
        intro i  x  hN hi hg ls hl
        have hlt : q - (i : Int) < -51 := by omega
        refine lv_iload hx hb dX0_ofDouble_44 (lv_at hl 0 rfl) ?_
        refine lv_bipush (v := 40) hx hb dX0_ofDouble_46 (by decide) ?_
        refine lv_icmp_ge (tgt := 80) hx hb dX0_ofDouble_48 (by decide) (fun c48 => ?_) (fun q => absurd (nI_le (a := 40) (by omega) (by omega)) q)
        refine lv_iconst (v := 0) hx hb dX0_ofDouble_80 (by decide) ?_
        refine lv_istore (lv' := [(8, _), (6, _), (4, _), (2, _), (0, _)]) hx hb dX0_ofDouble_81 hl (by decide) rfl (fun ls hl => ?_)
        have L83 : ∀ (N : Nat) (j : Nat) (y : UInt64), (j + N = 40) → (is64 y false c (q - (i : Int) + (j : Int))) → (j = 0 ∨ q - (i : Int) + (j : Int) ≤ -52) → ∀ ls : Array Slot, lv_has ls 9 [(8, .int (nI j)), (6, .long (lI (1023 + i - j))), (4, .double y), (2, .long 0), (0, .double d)] → W p l e ({ frames := 0, cells := 0, slots := 0, locals := 0 } : Room) s m (([.double d] : List Value).toArray) below meth cd s.heap [] 0 0 (MQ below (vp_Sl (fun r => r = d.toInt64)) ([.double d] : List Value).toArray s 0 0 (fun _ => False)) (F0 m 83 ls []) := by
          intro N
          induction N with
          | zero =>
            intro j  y  hN2 hj hg2 ls hl
            have hqe : q - (i : Int) + (j : Int) = -52 := by omega
            refine lv_iload hx hb dX0_ofDouble_83 (lv_at hl 0 rfl) ?_
            refine lv_bipush (v := 40) hx hb dX0_ofDouble_85 (by decide) ?_
            refine lv_icmp_ge (tgt := 117) hx hb dX0_ofDouble_87 (by decide) (fun c87 => ?_) (fun q => absurd (nI_le (a := 40) (by omega) (by omega)) q)
            refine lv_lload_n hx hb dX0_ofDouble_117 rfl (lv_at hl 3 rfl) ?_
            refine lv_lload hx hb dX0_ofDouble_118 (lv_at hl 1 rfl) ?_
            refine lv_bipush (v := 52) hx hb dX0_ofDouble_120 (by decide) ?_
            refine lv_lshl hx hb dX0_ofDouble_122 rfl ?_
            refine lv_lor hx hb dX0_ofDouble_123 ?_
            have hjj : is64 y false c (-52) := by rw [← hqe]; exact hj
            refine lv_dload hx hb dX0_ofDouble_124 (lv_at hl 2 rfl) ?_
            refine lv_dconst1 hx hb dX0_ofDouble_126 ?_
            refine lv_dsub hx hb dX0_ofDouble_127 ((fr64 hjj).1) ?_
            refine lv_ldc2d (v := 4841369599423283200) hx hb hown (hts _ tw_452) dX0_ofDouble_128 ?_
            refine lv_dmul hx hb dX0_ofDouble_131 ((fr64 hjj).2.1) ?_
            refine lv_d2l hx hb dX0_ofDouble_132 ?_
            refine tpv (y := .long (lI (c - 4503599627370496))) (congrArg Value.long (fr64 hjj).2.2) ?_
            refine lv_lor hx hb dX0_ofDouble_133 ?_
            exact re_SL hx hb hr hlocks dX0_ofDouble_134 (by rw [h.i64, if_neg (by decide), show (q + 1075).toNat = 1023 + i - j by omega])
          | succ N ih =>
            intro j  y  hN2 hj hg2 ls hl
            refine lv_iload hx hb dX0_ofDouble_83 (lv_at hl 0 rfl) ?_
            refine lv_bipush (v := 40) hx hb dX0_ofDouble_85 (by decide) ?_
            refine lv_icmp_ge (tgt := 117) hx hb dX0_ofDouble_87 (by decide) (fun q => absurd q (nI_ge (b := 40) (by omega) (by omega))) (fun c87 => ?_)
            refine lv_dload hx hb dX0_ofDouble_90 (lv_at hl 2 rfl) ?_
            refine lv_dconst1 hx hb dX0_ofDouble_92 ?_
            refine lv_dcmp hx hb dX0_ofDouble_93 ?_
            refine lv_if_ge (tgt := 117) hx hb dX0_ofDouble_94 (by decide) (fun c94 => ?_) (fun c94 => ?_)
            · have hqe : q - (i : Int) + (j : Int) = -52 := by
                rcases cm_one hj with ⟨-, e9⟩ | ⟨g9, -⟩
                · rw [e9] at c94; exact absurd c94 (by decide)
                · omega
              refine lv_lload_n hx hb dX0_ofDouble_117 rfl (lv_at hl 3 rfl) ?_
              refine lv_lload hx hb dX0_ofDouble_118 (lv_at hl 1 rfl) ?_
              refine lv_bipush (v := 52) hx hb dX0_ofDouble_120 (by decide) ?_
              refine lv_lshl hx hb dX0_ofDouble_122 rfl ?_
              refine lv_lor hx hb dX0_ofDouble_123 ?_
              have hjj : is64 y false c (-52) := by rw [← hqe]; exact hj
              refine lv_dload hx hb dX0_ofDouble_124 (lv_at hl 2 rfl) ?_
              refine lv_dconst1 hx hb dX0_ofDouble_126 ?_
              refine lv_dsub hx hb dX0_ofDouble_127 ((fr64 hjj).1) ?_
              refine lv_ldc2d (v := 4841369599423283200) hx hb hown (hts _ tw_452) dX0_ofDouble_128 ?_
              refine lv_dmul hx hb dX0_ofDouble_131 ((fr64 hjj).2.1) ?_
              refine lv_d2l hx hb dX0_ofDouble_132 ?_
              refine tpv (y := .long (lI (c - 4503599627370496))) (congrArg Value.long (fr64 hjj).2.2) ?_
              refine lv_lor hx hb dX0_ofDouble_133 ?_
              exact re_SL hx hb hr hlocks dX0_ofDouble_134 (by rw [h.i64, if_neg (by decide), show (q + 1075).toNat = 1023 + i - j by omega])
            · have hlt2 : q - (i : Int) + (j : Int) < -52 := by
                rcases cm_one hj with ⟨g9, -⟩ | ⟨-, e9 | e9⟩
                · exact g9
                · rw [e9] at c94; exact absurd (by decide) c94
                · rw [e9] at c94; exact absurd (by decide) c94
              have hh := db64 hj (by omega)
              refine lv_dload hx hb dX0_ofDouble_97 (lv_at hl 2 rfl) ?_
              refine lv_ldc2d (v := 4611686018427387904) hx hb hown (hts _ tw_451) dX0_ofDouble_99 ?_
              refine lv_dmul hx hb dX0_ofDouble_102 (hh.nan) ?_
              refine lv_dstore (lv' := [(4, _), (8, _), (6, _), (2, _), (0, _)]) hx hb dX0_ofDouble_103 hl (by decide) rfl (fun ls hl => ?_)
              refine lv_lload hx hb dX0_ofDouble_105 (lv_at hl 2 rfl) ?_
              refine lv_lconst (v := 1) hx hb dX0_ofDouble_107 rfl ?_
              refine lv_lsub hx hb dX0_ofDouble_108 ?_
              refine tpv (y := .long (lI (1023 + i - (j + 1)))) (congrArg Value.long ((lI_sub (a := 1023 + i - j) (b := 1) (by omega)).trans (congrArg lI (by omega)))) ?_
              refine lv_lstore (lv' := [(6, _), (4, _), (8, _), (2, _), (0, _)]) hx hb dX0_ofDouble_109 hl (by decide) rfl (fun ls hl => ?_)
              refine lv_iinc (v := nI (j + 1)) (lv' := [(8, _), (6, _), (4, _), (2, _), (0, _)]) hx hb dX0_ofDouble_111 hl (k := 2) rfl (inc1 j) (by decide) rfl (fun ls hl => ?_)
              refine lv_goto (tgt := 83) hx hb dX0_ofDouble_114 (by decide) ?_
              exact ih (j + 1) _ (by omega) (by rw [show q - (i : Int) + ((j + 1 : Nat) : Int) = q - (i : Int) + (j : Int) + 1 by omega]; exact hh) (by omega) ls (lv_sub hl [0, 1, 2, 3, 4] rfl)
        exact L83 40 0 x (by omega) (by rw [show q - (i : Int) + ((0 : Nat) : Int) = q - (i : Int) by omega]; exact hi) (Or.inl rfl) ls (lv_sub hl [0, 1, 2, 3, 4] rfl)
      | succ N ih =>
        intro i  x  hN hi hg ls hl
        refine lv_iload hx hb dX0_ofDouble_44 (lv_at hl 0 rfl) ?_
        refine lv_bipush (v := 40) hx hb dX0_ofDouble_46 (by decide) ?_
        refine lv_icmp_ge (tgt := 80) hx hb dX0_ofDouble_48 (by decide) (fun q => absurd q (nI_ge (b := 40) (by omega) (by omega))) (fun c48 => ?_)
        refine lv_dload hx hb dX0_ofDouble_51 (lv_at hl 2 rfl) ?_
        refine lv_ldc2d (v := 4611686018427387904) hx hb hown (hts _ tw_451) dX0_ofDouble_53 ?_
        refine lv_dcmp hx hb dX0_ofDouble_56 ?_
        refine lv_if_lt (tgt := 80) hx hb dX0_ofDouble_57 (by decide) (fun c57 => ?_) (fun c57 => ?_)
        · have hlt : q - (i : Int) < -51 := by
            rcases cm_two hi with ⟨g9, -⟩ | ⟨-, e9 | e9⟩
            · exact g9
            · rw [e9] at c57; exact absurd c57 (by decide)
            · rw [e9] at c57; exact absurd c57 (by decide)
          refine lv_iconst (v := 0) hx hb dX0_ofDouble_80 (by decide) ?_
          refine lv_istore (lv' := [(8, _), (6, _), (4, _), (2, _), (0, _)]) hx hb dX0_ofDouble_81 hl (by decide) rfl (fun ls hl => ?_)
          have L83 : ∀ (N : Nat) (j : Nat) (y : UInt64), (j + N = 40) → (is64 y false c (q - (i : Int) + (j : Int))) → (j = 0 ∨ q - (i : Int) + (j : Int) ≤ -52) → ∀ ls : Array Slot, lv_has ls 9 [(8, .int (nI j)), (6, .long (lI (1023 + i - j))), (4, .double y), (2, .long 0), (0, .double d)] → W p l e ({ frames := 0, cells := 0, slots := 0, locals := 0 } : Room) s m (([.double d] : List Value).toArray) below meth cd s.heap [] 0 0 (MQ below (vp_Sl (fun r => r = d.toInt64)) ([.double d] : List Value).toArray s 0 0 (fun _ => False)) (F0 m 83 ls []) := by
            intro N
            induction N with
            | zero =>
              intro j  y  hN2 hj hg2 ls hl
              have hqe : q - (i : Int) + (j : Int) = -52 := by omega
              refine lv_iload hx hb dX0_ofDouble_83 (lv_at hl 0 rfl) ?_
              refine lv_bipush (v := 40) hx hb dX0_ofDouble_85 (by decide) ?_
              refine lv_icmp_ge (tgt := 117) hx hb dX0_ofDouble_87 (by decide) (fun c87 => ?_) (fun q => absurd (nI_le (a := 40) (by omega) (by omega)) q)
              refine lv_lload_n hx hb dX0_ofDouble_117 rfl (lv_at hl 3 rfl) ?_
              refine lv_lload hx hb dX0_ofDouble_118 (lv_at hl 1 rfl) ?_
              refine lv_bipush (v := 52) hx hb dX0_ofDouble_120 (by decide) ?_
              refine lv_lshl hx hb dX0_ofDouble_122 rfl ?_
              refine lv_lor hx hb dX0_ofDouble_123 ?_
              have hjj : is64 y false c (-52) := by rw [← hqe]; exact hj
              refine lv_dload hx hb dX0_ofDouble_124 (lv_at hl 2 rfl) ?_
              refine lv_dconst1 hx hb dX0_ofDouble_126 ?_
              refine lv_dsub hx hb dX0_ofDouble_127 ((fr64 hjj).1) ?_
              refine lv_ldc2d (v := 4841369599423283200) hx hb hown (hts _ tw_452) dX0_ofDouble_128 ?_
              refine lv_dmul hx hb dX0_ofDouble_131 ((fr64 hjj).2.1) ?_
              refine lv_d2l hx hb dX0_ofDouble_132 ?_
              refine tpv (y := .long (lI (c - 4503599627370496))) (congrArg Value.long (fr64 hjj).2.2) ?_
              refine lv_lor hx hb dX0_ofDouble_133 ?_
              exact re_SL hx hb hr hlocks dX0_ofDouble_134 (by rw [h.i64, if_neg (by decide), show (q + 1075).toNat = 1023 + i - j by omega])
            | succ N ih =>
              intro j  y  hN2 hj hg2 ls hl
              refine lv_iload hx hb dX0_ofDouble_83 (lv_at hl 0 rfl) ?_
              refine lv_bipush (v := 40) hx hb dX0_ofDouble_85 (by decide) ?_
              refine lv_icmp_ge (tgt := 117) hx hb dX0_ofDouble_87 (by decide) (fun q => absurd q (nI_ge (b := 40) (by omega) (by omega))) (fun c87 => ?_)
              refine lv_dload hx hb dX0_ofDouble_90 (lv_at hl 2 rfl) ?_
              refine lv_dconst1 hx hb dX0_ofDouble_92 ?_
              refine lv_dcmp hx hb dX0_ofDouble_93 ?_
              refine lv_if_ge (tgt := 117) hx hb dX0_ofDouble_94 (by decide) (fun c94 => ?_) (fun c94 => ?_)
              · have hqe : q - (i : Int) + (j : Int) = -52 := by
                  rcases cm_one hj with ⟨-, e9⟩ | ⟨g9, -⟩
                  · rw [e9] at c94; exact absurd c94 (by decide)
                  · omega
                refine lv_lload_n hx hb dX0_ofDouble_117 rfl (lv_at hl 3 rfl) ?_
                refine lv_lload hx hb dX0_ofDouble_118 (lv_at hl 1 rfl) ?_
                refine lv_bipush (v := 52) hx hb dX0_ofDouble_120 (by decide) ?_
                refine lv_lshl hx hb dX0_ofDouble_122 rfl ?_
                refine lv_lor hx hb dX0_ofDouble_123 ?_
                have hjj : is64 y false c (-52) := by rw [← hqe]; exact hj
                refine lv_dload hx hb dX0_ofDouble_124 (lv_at hl 2 rfl) ?_
                refine lv_dconst1 hx hb dX0_ofDouble_126 ?_
                refine lv_dsub hx hb dX0_ofDouble_127 ((fr64 hjj).1) ?_
                refine lv_ldc2d (v := 4841369599423283200) hx hb hown (hts _ tw_452) dX0_ofDouble_128 ?_
                refine lv_dmul hx hb dX0_ofDouble_131 ((fr64 hjj).2.1) ?_
                refine lv_d2l hx hb dX0_ofDouble_132 ?_
                refine tpv (y := .long (lI (c - 4503599627370496))) (congrArg Value.long (fr64 hjj).2.2) ?_
                refine lv_lor hx hb dX0_ofDouble_133 ?_
                exact re_SL hx hb hr hlocks dX0_ofDouble_134 (by rw [h.i64, if_neg (by decide), show (q + 1075).toNat = 1023 + i - j by omega])
              · have hlt2 : q - (i : Int) + (j : Int) < -52 := by
                  rcases cm_one hj with ⟨g9, -⟩ | ⟨-, e9 | e9⟩
                  · exact g9
                  · rw [e9] at c94; exact absurd (by decide) c94
                  · rw [e9] at c94; exact absurd (by decide) c94
                have hh := db64 hj (by omega)
                refine lv_dload hx hb dX0_ofDouble_97 (lv_at hl 2 rfl) ?_
                refine lv_ldc2d (v := 4611686018427387904) hx hb hown (hts _ tw_451) dX0_ofDouble_99 ?_
                refine lv_dmul hx hb dX0_ofDouble_102 (hh.nan) ?_
                refine lv_dstore (lv' := [(4, _), (8, _), (6, _), (2, _), (0, _)]) hx hb dX0_ofDouble_103 hl (by decide) rfl (fun ls hl => ?_)
                refine lv_lload hx hb dX0_ofDouble_105 (lv_at hl 2 rfl) ?_
                refine lv_lconst (v := 1) hx hb dX0_ofDouble_107 rfl ?_
                refine lv_lsub hx hb dX0_ofDouble_108 ?_
                refine tpv (y := .long (lI (1023 + i - (j + 1)))) (congrArg Value.long ((lI_sub (a := 1023 + i - j) (b := 1) (by omega)).trans (congrArg lI (by omega)))) ?_
                refine lv_lstore (lv' := [(6, _), (4, _), (8, _), (2, _), (0, _)]) hx hb dX0_ofDouble_109 hl (by decide) rfl (fun ls hl => ?_)
                refine lv_iinc (v := nI (j + 1)) (lv' := [(8, _), (6, _), (4, _), (2, _), (0, _)]) hx hb dX0_ofDouble_111 hl (k := 2) rfl (inc1 j) (by decide) rfl (fun ls hl => ?_)
                refine lv_goto (tgt := 83) hx hb dX0_ofDouble_114 (by decide) ?_
                exact ih (j + 1) _ (by omega) (by rw [show q - (i : Int) + ((j + 1 : Nat) : Int) = q - (i : Int) + (j : Int) + 1 by omega]; exact hh) (by omega) ls (lv_sub hl [0, 1, 2, 3, 4] rfl)
          exact L83 40 0 x (by omega) (by rw [show q - (i : Int) + ((0 : Nat) : Int) = q - (i : Int) by omega]; exact hi) (Or.inl rfl) ls (lv_sub hl [0, 1, 2, 3, 4] rfl)
        · have hge : -51 ≤ q - (i : Int) := by
            rcases cm_two hi with ⟨-, e9⟩ | ⟨g9, -⟩
            · rw [e9] at c57; exact absurd (show (Op.cmpValue (some .lt) .l : Int32) < 0 by decide) c57
            · exact g9
          have hh := hv64 hi (by omega)
          refine lv_dload hx hb dX0_ofDouble_60 (lv_at hl 2 rfl) ?_
          refine lv_ldc2d (v := 4611686018427387904) hx hb hown (hts _ tw_451) dX0_ofDouble_62 ?_
          refine lv_ddiv hx hb dX0_ofDouble_65 (hh.nan) ?_
          refine lv_dstore (lv' := [(4, _), (8, _), (6, _), (2, _), (0, _)]) hx hb dX0_ofDouble_66 hl (by decide) rfl (fun ls hl => ?_)
          refine lv_lload hx hb dX0_ofDouble_68 (lv_at hl 2 rfl) ?_
          refine lv_lconst (v := 1) hx hb dX0_ofDouble_70 rfl ?_
          refine lv_ladd hx hb dX0_ofDouble_71 ?_
          refine tpv (y := .long (lI (1023 + (i + 1)))) (congrArg Value.long (lI_add (1023 + i) 1)) ?_
          refine lv_lstore (lv' := [(6, _), (4, _), (8, _), (2, _), (0, _)]) hx hb dX0_ofDouble_72 hl (by decide) rfl (fun ls hl => ?_)
          refine lv_iinc (v := nI (i + 1)) (lv' := [(8, _), (6, _), (4, _), (2, _), (0, _)]) hx hb dX0_ofDouble_74 hl (k := 2) rfl (inc1 i) (by decide) rfl (fun ls hl => ?_)
          refine lv_goto (tgt := 44) hx hb dX0_ofDouble_77 (by decide) ?_
          exact ih (i + 1) _ (by omega) (by rw [show q - ((i + 1 : Nat) : Int) = q - (i : Int) - 1 by omega]; exact hh) (by omega) ls (lv_sub hl [0, 1, 2, 3, 4] rfl)
    exact L44 40 0 x0 (by omega) (by rw [show q - ((0 : Nat) : Int) = q by omega]; exact hm) (Or.inl rfl) ls (lv_sub hl [0, 1, 2, 3, 4] rfl)
set_option maxHeartbeats 4000000 in
set_option maxRecDepth 100000 in
theorem k_X0_ofFloat_z (l : Launch)  : Met l yX0_ofFloat (wv yX0_ofFloat cX0_ofFloat 5 (some .int)) ({ frames := 0, cells := 0, slots := 0, locals := 0 } : Room) (va_Pc [.float 0] (fun _ => True)) (vp_Si (fun r => r = 0)) 0 0 (fun _ => False) := by
  refine en (by decide +kernel) (by first | exact Nat.le_of_ble_eq_true rfl | decide) ?_
  intro p e s m below meth cd ls hx hb hr hml hown hts hlocks hnm hw hl
  have hl : lv_has ls 5 [(0, .float 0)] := hl
  refine lv_fload_n hx hb dX0_ofFloat_0 rfl (lv_at hl 0 rfl) ?_
  refine lv_fconst0 hx hb dX0_ofFloat_1 ?_
  refine lv_fcmp hx hb dX0_ofFloat_2 ?_
  refine lv_if_ne (tgt := 8) hx hb dX0_ofFloat_3 (by decide) (fun q => absurd (by decide +kernel) q) (fun c3 => ?_)
  refine lv_iconst (v := 0) hx hb dX0_ofFloat_6 (by decide) ?_
  exact re_S hx hb hr hlocks (rfl) dX0_ofFloat_7 (rfl)
set_option maxHeartbeats 4000000 in
set_option maxRecDepth 100000 in
theorem k_X0_ofFloat (l : Launch) {d : UInt32} {c : Nat} {q : Int} (h : is32 d false c q) (hq1 : -63 ≤ q) (hq2 : q ≤ 17) : Met l yX0_ofFloat (wv yX0_ofFloat cX0_ofFloat 5 (some .int)) ({ frames := 1, cells := 0, slots := 0, locals := 28 } : Room) (va_Pc [.float d] (fun _ => True)) (vp_Si (fun r => r = d.toInt32)) 0 0 (fun _ => False) := by
  refine en (by decide +kernel) (by first | exact Nat.le_of_ble_eq_true rfl | decide) ?_
  intro p e s m below meth cd ls hx hb hr hml hown hts hlocks hnm hw hl
  have hl : lv_has ls 5 [(0, .float d)] := hl
  refine lv_fload_n hx hb dX0_ofFloat_0 rfl (lv_at hl 0 rfl) ?_
  refine lv_fconst0 hx hb dX0_ofFloat_1 ?_
  refine lv_fcmp hx hb dX0_ofFloat_2 ?_
  refine lv_if_ne (tgt := 8) hx hb dX0_ofFloat_3 (by decide) (fun c3 => ?_) (fun q => absurd q (by rw [cm_z32 h]; decide))
  refine lv_fload_n hx hb dX0_ofFloat_8 rfl (lv_at hl 0 rfl) ?_
  refine lv_f2d hx hb dX0_ofFloat_9 ((fd64 h (by omega)).nan) ?_
  refine cSl (rST (As := [_]) ⟨hx, hb, hml, hown, hts⟩ (k_X0_ofDouble l (fd64 h (by omega)) (by omega) (by omega)) (cv_X0_ofDouble hts tw_470 rfl rfl ⟨Nat.le_of_ble_eq_true rfl, Nat.le_of_ble_eq_true rfl⟩) rfl hl.1 rfl (by first | exact Nat.le_of_ble_eq_true rfl | decide) dX0_ofFloat_10 ⟨Nat.zero_le _, Nat.zero_le _⟩) ?_
  refine lv_lstore_n (lv' := [(1, _), (0, _)]) hx hb dX0_ofFloat_13 rfl hl (by decide) rfl (fun ls hl => ?_)
  refine lv_lload_n hx hb dX0_ofFloat_14 rfl (lv_at hl 0 rfl) ?_
  refine lv_bipush (v := 52) hx hb dX0_ofFloat_15 (by decide) ?_
  refine lv_lushr hx hb dX0_ofFloat_17 rfl ?_
  refine lv_ldc2 (v := 1023) hx hb hown (hts _ tw_450) dX0_ofFloat_18 ?_
  refine lv_lsub hx hb dX0_ofFloat_21 ?_
  refine lv_ldc2 (v := 127) hx hb hown (hts _ tw_471) dX0_ofFloat_22 ?_
  refine lv_ladd hx hb dX0_ofFloat_25 ?_
  refine lv_lstore_n (lv' := [(3, _), (1, _), (0, _)]) hx hb dX0_ofFloat_26 rfl hl (by decide) rfl (fun ls hl => ?_)
  refine lv_lload_n hx hb dX0_ofFloat_27 rfl (lv_at hl 0 rfl) ?_
  refine lv_bipush (v := 23) hx hb dX0_ofFloat_28 (by decide) ?_
  refine lv_lshl hx hb dX0_ofFloat_30 rfl ?_
  refine lv_lload_n hx hb dX0_ofFloat_31 rfl (lv_at hl 1 rfl) ?_
  refine lv_bipush (v := 29) hx hb dX0_ofFloat_32 (by decide) ?_
  refine lv_lushr hx hb dX0_ofFloat_34 rfl ?_
  refine lv_ldc2 (v := 8388607) hx hb hown (hts _ tw_472) dX0_ofFloat_35 ?_
  refine lv_land hx hb dX0_ofFloat_38 ?_
  refine lv_lor hx hb dX0_ofFloat_39 ?_
  refine lv_l2i hx hb dX0_ofFloat_40 rfl ?_
  exact re_S hx hb hr hlocks (rfl) dX0_ofFloat_41 (ofb h hq1 hq2)
set_option maxHeartbeats 4000000 in
set_option maxRecDepth 100000 in
theorem k_X6_told (l : Launch) {G : GT} {c : Nat → va_E} {k j sn : Nat} {so : Int32} {g : Nat → Int32} (hk : k < 45) (hj : j < 45) (s1 : c k = .inr (5, [.ref (gad G j), .int so, .int (nI sn)])) (s2 : c j = .inl (gI G, 40, .inl g)) (hsn : sn ≤ 40) {i : Nat} (hi : i < 40) : Met l yX6_told (wv yX6_told cX6_told 2 (some .long)) ({ frames := 1, cells := 0, slots := 0, locals := 28 } : Room) (va_Pc [.ref (gad G k), .int (nI i)] (fun U => Hw G c U U.heap)) (vp_Sl (fun r => r = itv so (g i))) 0 0 (fun _ => False) := by
  refine en (by decide +kernel) (by first | exact Nat.le_of_ble_eq_true rfl | decide) ?_
  intro p e s m below meth cd ls hx hb hr hml hown hts hlocks hnm hw hl
  have hl : lv_has ls 2 [(0, .ref (gad G k)), (1, .int (nI i))] := hl
  refine lv_aload_n hx hb dX6_told_0 rfl (lv_at hl 0 rfl) ?_
  refine w_get (C := RX6) (T := TX6) (N := 3) 1 hx hb hts inX6 hown hw hk s1 rfl (by decide) (hts _ tw_143) rfl dX6_told_1 ?_
  refine lv_if_ne (tgt := 24) hx hb dX6_told_4 (by decide) (fun c4 => ?_) (fun c4 => ?_)
  · refine lv_aload_n hx hb dX6_told_24 rfl (lv_at hl 0 rfl) ?_
    refine w_get (C := RX6) (T := TX6) (N := 3) 0 hx hb hts inX6 hown hw hk s1 rfl (by decide) (hts _ tw_142) rfl dX6_told_25 ?_
    refine lv_iload_n hx hb dX6_told_28 rfl (lv_at hl 1 rfl) ?_
    refine w_ialdN (j := i) hx hb hw hj s2 (rfl) (hi) (by decide) dX6_told_29 ?_
    refine lv_i2l hx hb dX6_told_30 rfl ?_
    exact re_SL hx hb hr hlocks dX6_told_31 (by rw [itv, if_neg c4])
  · refine lv_aload_n hx hb dX6_told_7 rfl (lv_at hl 0 rfl) ?_
    refine w_get (C := RX6) (T := TX6) (N := 3) 0 hx hb hts inX6 hown hw hk s1 rfl (by decide) (hts _ tw_142) rfl dX6_told_8 ?_
    refine lv_iload_n hx hb dX6_told_11 rfl (lv_at hl 1 rfl) ?_
    refine w_ialdN (j := i) hx hb hw hj s2 (rfl) (hi) (by decide) dX6_told_12 ?_
    refine lv_i2d hx hb dX6_told_13 ?_
    refine lv_ldc2d (v := 4611686018427387904) hx hb hown (hts _ tw_828) dX6_told_14 ?_
    refine lv_ddiv hx hb dX6_told_17 (nan_of half_b) ?_
    rcases half_b (x := g i) with e9 | ⟨s9, cc9, q9, g1, g2, g3⟩
    · refine tpv (y := .double 0) (by rw [e9]) ?_
      refine cSl (rST (As := [_]) ⟨hx, hb, hml, hown, hts⟩ (k_X0_ofDouble_z l ) (cv_X0_ofDouble hts tw_829 rfl rfl ⟨Nat.le_of_ble_eq_true rfl, Nat.le_of_ble_eq_true rfl⟩) rfl hl.1 rfl (by first | exact Nat.le_of_ble_eq_true rfl | decide) dX6_told_18 ⟨Nat.zero_le _, Nat.zero_le _⟩) ?_
      refine lv_goto (tgt := 31) hx hb dX6_told_21 (by decide) ?_
      exact re_SL hx hb hr hlocks dX6_told_31 (by rw [itv, if_pos c4, e9]; rfl)
    · skip
      refine cSl (rST (As := [_]) ⟨hx, hb, hml, hown, hts⟩ (k_X0_ofDouble l g1 g2 g3) (cv_X0_ofDouble hts tw_829 rfl rfl ⟨Nat.le_of_ble_eq_true rfl, Nat.le_of_ble_eq_true rfl⟩) rfl hl.1 rfl (by first | exact Nat.le_of_ble_eq_true rfl | decide) dX6_told_18 ⟨Nat.zero_le _, Nat.zero_le _⟩) ?_
      refine lv_goto (tgt := 31) hx hb dX6_told_21 (by decide) ?_
      exact re_SL hx hb hr hlocks dX6_told_31 (by rw [itv, if_pos c4])
set_option maxHeartbeats 4000000 in
set_option maxRecDepth 100000 in
theorem k_X10_share (l : Launch) {G : GT} {c : Nat → va_E} {im : Bool} {iz : Int32} (o1 : c 0 = .inr (8, [.ref (gad G 1), .ref (gad G 3), .ref (gad G 5), .ref (gad G 8), .ref (gad G 9), .ref (gad G 11), .ref (gad G 16), .ref (gad G 18), .int (bi im), .ref (gad G 27), .ref (gad G 29), .int iz])) {n : Nat} {f : Nat → Int32} (h1 : c 1 = .inr (0, [.ref (gad G 2), .int (nI n)])) (h2 : c 2 = .inl (gI G, 132, .inl f)) (hn : n ≤ 12) {a d w : Int32} : Met l yX10_share (wv yX10_share cX10_share 4 (some .long)) ({ frames := 4, cells := 0, slots := 0, locals := 96 } : Room) (va_Pc [.ref (gad G 0), .int a, .int d, .int w] (fun U => Hw G c U U.heap)) (vp_Sl (fun r => r = spShare f n a d w)) 0 0 (fun _ => False) := by
  refine en (by decide +kernel) (by first | exact Nat.le_of_ble_eq_true rfl | decide) ?_
  intro p e s m below meth cd ls hx hb hr hml hown hts hlocks hnm hw hl
  have hl : lv_has ls 4 [(0, .ref (gad G 0)), (1, .int a), (2, .int d), (3, .int w)] := hl
  refine lv_iload_n hx hb dX10_share_0 rfl (lv_at hl 1 rfl) ?_
  refine cSe (rST (As := [_]) ⟨hx, hb, hml, hown, hts⟩ (k_X10_isProfile l ) (cv_X10_isProfile hts tw_276 rfl rfl ⟨Nat.le_of_ble_eq_true rfl, Nat.le_of_ble_eq_true rfl⟩) rfl hl.1 rfl (by first | exact Nat.le_of_ble_eq_true rfl | decide) dX10_share_1 ⟨Nat.zero_le _, Nat.zero_le _⟩) ?_
  refine zb_eq (tgt := 24) hx hb dX10_share_4 (by decide) (fun c4 => ?_) (fun c4 => ?_)
  · refine lv_ldc2 (v := (-4611686018427387906)) hx hb hown (hts _ tw_445) dX10_share_24 ?_
    exact re_SL hx hb hr hlocks dX10_share_27 (by simp [spShare, c4])
  · refine lv_iload_n hx hb dX10_share_7 rfl (lv_at hl 2 rfl) ?_
    refine cSe (rST (As := [_]) ⟨hx, hb, hml, hown, hts⟩ (k_X10_isDay l ) (cv_X10_isDay hts tw_237 rfl rfl ⟨Nat.le_of_ble_eq_true rfl, Nat.le_of_ble_eq_true rfl⟩) rfl hl.1 rfl (by first | exact Nat.le_of_ble_eq_true rfl | decide) dX10_share_8 ⟨Nat.zero_le _, Nat.zero_le _⟩) ?_
    refine zb_eq (tgt := 24) hx hb dX10_share_11 (by decide) (fun c11 => ?_) (fun c11 => ?_)
    · refine lv_ldc2 (v := (-4611686018427387906)) hx hb hown (hts _ tw_445) dX10_share_24 ?_
      exact re_SL hx hb hr hlocks dX10_share_27 (by simp [spShare, c4, c11])
    · refine lv_iload_n hx hb dX10_share_14 rfl (lv_at hl 3 rfl) ?_
      refine lv_iconst (v := 1) hx hb dX10_share_15 (by decide) ?_
      refine lv_bipush (v := 9) hx hb dX10_share_16 (by decide) ?_
      refine cSe (rST (As := [_, _, _]) ⟨hx, hb, hml, hown, hts⟩ (k_X10_within l ) (cv_X10_within hts tw_209 rfl rfl ⟨Nat.le_of_ble_eq_true rfl, Nat.le_of_ble_eq_true rfl⟩) rfl hl.1 rfl (by first | exact Nat.le_of_ble_eq_true rfl | decide) dX10_share_18 ⟨Nat.zero_le _, Nat.zero_le _⟩) ?_
      refine zb_ne (tgt := 28) hx hb dX10_share_21 (by decide) (fun c21 => ?_) (fun c21 => ?_)
      · obtain ⟨p0, hp0, rfl⟩ := isP_t c4
        obtain ⟨k, hk1, hk2, rfl⟩ := wn_nI (a := 1) (b := 9) (by decide) (by decide) c21
        refine lv_aload_n hx hb dX10_share_28 rfl (lv_at hl 0 rfl) ?_
        refine w_get (C := RX10) (T := TX10) (N := 12) 0 hx hb hts inX10 hown hw (by decide) o1 rfl (by decide) (hts _ tw_152) rfl dX10_share_29 ?_
        refine lv_iload_n hx hb dX10_share_32 rfl (lv_at hl 1 rfl) ?_
        refine lv_iload_n hx hb dX10_share_33 rfl (lv_at hl 2 rfl) ?_
        refine cSe (rV (As := [_, _]) ⟨hx, hb, hml, hown, hts⟩ hw (k_X1_total l (by decide) (by decide) h1 h2 hn hp0) (cv_X1_total hts tw_287 rfl rfl ⟨Nat.le_of_ble_eq_true rfl, Nat.le_of_ble_eq_true rfl⟩) (by decide) h1 rfl rfl hl.1 rfl (by first | exact Nat.le_of_ble_eq_true rfl | decide) dX10_share_34 ⟨Nat.zero_le _, Nat.zero_le _⟩) ?_
        refine lv_i2d hx hb dX10_share_37 ?_
        refine lv_iload_n hx hb dX10_share_38 rfl (lv_at hl 3 rfl) ?_
        refine lv_i2d hx hb dX10_share_39 ?_
        refine lv_ddiv hx hb dX10_share_40 (nan_of (quo_b hk1 hk2)) ?_
        rcases quo_b (x := ocm f n p0 d) hk1 hk2 with e9 | ⟨s9, cc9, q9, g1, g2, g3⟩
        · refine tpv (y := .double 0) (by rw [e9]) ?_
          refine cSl (rST (As := [_]) ⟨hx, hb, hml, hown, hts⟩ (k_X0_ofDouble_z l ) (cv_X0_ofDouble hts tw_446 rfl rfl ⟨Nat.le_of_ble_eq_true rfl, Nat.le_of_ble_eq_true rfl⟩) rfl hl.1 rfl (by first | exact Nat.le_of_ble_eq_true rfl | decide) dX10_share_41 ⟨Nat.zero_le _, Nat.zero_le _⟩) ?_
          exact re_SL hx hb hr hlocks dX10_share_44 (by rw [spShare, if_pos (by rw [c4, c11, c21]; rfl), pN_nI hp0, e9]; rfl)
        · skip
          refine cSl (rST (As := [_]) ⟨hx, hb, hml, hown, hts⟩ (k_X0_ofDouble l g1 g2 g3) (cv_X0_ofDouble hts tw_446 rfl rfl ⟨Nat.le_of_ble_eq_true rfl, Nat.le_of_ble_eq_true rfl⟩) rfl hl.1 rfl (by first | exact Nat.le_of_ble_eq_true rfl | decide) dX10_share_41 ⟨Nat.zero_le _, Nat.zero_le _⟩) ?_
          exact re_SL hx hb hr hlocks dX10_share_44 (by rw [spShare, if_pos (by rw [c4, c11, c21]; rfl), pN_nI hp0])
      · refine lv_ldc2 (v := (-4611686018427387906)) hx hb hown (hts _ tw_445) dX10_share_24 ?_
        exact re_SL hx hb hr hlocks dX10_share_27 (by simp [spShare, c4, c11, c21])
set_option maxHeartbeats 4000000 in
set_option maxRecDepth 100000 in
theorem k_X10_mean (l : Launch) {G : GT} {c : Nat → va_E} {im : Bool} {iz : Int32} (o1 : c 0 = .inr (8, [.ref (gad G 1), .ref (gad G 3), .ref (gad G 5), .ref (gad G 8), .ref (gad G 9), .ref (gad G 11), .ref (gad G 16), .ref (gad G 18), .int (bi im), .ref (gad G 27), .ref (gad G 29), .int iz])) {n : Nat} {f : Nat → Int32} (h1 : c 1 = .inr (0, [.ref (gad G 2), .int (nI n)])) (h2 : c 2 = .inl (gI G, 132, .inl f)) (hn : n ≤ 12) {z : Int32} (z1 : c 8 = .inr (1, [.int z])) {d w : Int32} (hI : cI f n) : Met l yX10_mean (wv yX10_mean cX10_mean 7 (some .int)) ({ frames := 4, cells := 0, slots := 0, locals := 96 } : Room) (va_Pc [.ref (gad G 0), .int d, .int w] (fun U => Hw G c U U.heap)) (va_Qi (fun r (c9 : Nat → va_E) => r = spMean f n d z w ∧ c9 = c) (fun c9 t => Hw G c9 t t.heap) (gA G)) 0 0 (gA G) := by
  refine en (by decide +kernel) (by first | exact Nat.le_of_ble_eq_true rfl | decide) ?_
  intro p e s m below meth cd ls hx hb hr hml hown hts hlocks hnm hw hl
  have hl : lv_has ls 7 [(0, .ref (gad G 0)), (1, .int d), (2, .int w)] := hl
  have hX : Sw G s s.heap := hw.2.2.2.2.2
  have hS : va_S (gA G) s.heap s.heap [] := va_S.rf
  obtain ⟨H, hH⟩ : ∃ wz9, wz9 = s.heap := ⟨_, rfl⟩
  obtain ⟨locs, hlocs⟩ : ∃ wz9 : List Loc, wz9 = [] := ⟨_, rfl⟩
  have hw : Hw G c s H := by rw [hH]; exact hw
  have hS : va_S (gA G) s.heap H locs := by rw [hH, hlocs]; exact hS
  suffices hgo : W p l e ({ frames := 4, cells := 0, slots := 0, locals := 96 } : Room) s m (([.ref (gad G 0), .int d, .int w] : List Value).toArray) below meth cd H locs 0 0 (MQ below (va_Qi (fun r (c9 : Nat → va_E) => r = spMean f n d z w ∧ c9 = c) (fun c9 t => Hw G c9 t t.heap) (gA G)) ([.ref (gad G 0), .int d, .int w] : List Value).toArray s 0 0 (gA G)) (F0 m 0 ls []) by rw [hH, hlocs] at hgo; exact hgo
  have z10 := z1
  refine lv_iload_n hx hb dX10_mean_0 rfl (lv_at hl 1 rfl) ?_
  refine cSe (rST (As := [_]) ⟨hx, hb, hml, hown, hts⟩ (k_X10_isDay l ) (cv_X10_isDay hts tw_237 rfl rfl ⟨Nat.le_of_ble_eq_true rfl, Nat.le_of_ble_eq_true rfl⟩) rfl hl.1 rfl (by first | exact Nat.le_of_ble_eq_true rfl | decide) dX10_mean_1 ⟨Nat.zero_le _, Nat.zero_le _⟩) ?_
  refine zb_eq (tgt := 17) hx hb dX10_mean_4 (by decide) (fun c4 => ?_) (fun c4 => ?_)
  · refine lv_bipush (v := (-2)) hx hb dX10_mean_17 (by decide) ?_
    exact re_Q hx hb hr hlocks (rfl) hw hS dX10_mean_19 (⟨by simp [spMean, c4], rfl⟩)
  · refine lv_iload_n hx hb dX10_mean_7 rfl (lv_at hl 2 rfl) ?_
    refine lv_iconst (v := 1) hx hb dX10_mean_8 (by decide) ?_
    refine lv_bipush (v := 20) hx hb dX10_mean_9 (by decide) ?_
    refine cSe (rST (As := [_, _, _]) ⟨hx, hb, hml, hown, hts⟩ (k_X10_within l ) (cv_X10_within hts tw_209 rfl rfl ⟨Nat.le_of_ble_eq_true rfl, Nat.le_of_ble_eq_true rfl⟩) rfl hl.1 rfl (by first | exact Nat.le_of_ble_eq_true rfl | decide) dX10_mean_11 ⟨Nat.zero_le _, Nat.zero_le _⟩) ?_
    refine zb_ne (tgt := 20) hx hb dX10_mean_14 (by decide) (fun c14 => ?_) (fun c14 => ?_)
    · obtain ⟨k, hk1, hk2, rfl⟩ := wn_nI (a := 1) (b := 20) (by decide) (by decide) c14
      refine lv_aload_n hx hb dX10_mean_20 rfl (lv_at hl 0 rfl) ?_
      refine w_get (C := RX10) (T := TX10) (N := 12) 3 hx hb hts inX10 hown hw (by decide) o1 rfl (by decide) (hts _ tw_155) rfl dX10_mean_21 ?_
      refine w_get (C := RX2) (T := TX2) (N := 1) 0 hx hb hts inX2 hown hw (by decide) z1 rfl (by decide) (hts _ tw_67) rfl dX10_mean_24 ?_
      refine lv_istore_n (lv' := [(3, _), (0, _), (1, _), (2, _)]) hx hb dX10_mean_27 rfl hl (by decide) rfl (fun ls hl => ?_)
      refine lv_fconst0 hx hb dX10_mean_28 ?_
      refine lv_fstore (lv' := [(4, _), (3, _), (0, _), (1, _), (2, _)]) hx hb dX10_mean_29 hl (by decide) rfl (fun ls hl => ?_)
      refine lv_iconst (v := 0) hx hb dX10_mean_31 (by decide) ?_
      refine lv_istore (lv' := [(5, _), (4, _), (3, _), (0, _), (1, _), (2, _)]) hx hb dX10_mean_32 hl (by decide) rfl (fun ls hl => ?_)
      have L34 : ∀ (N : Nat) (i : Nat), (i + N = k) → ∀ (c0 : Nat → va_E) (H : Heap) (locs : List Loc), (c0 = va_up c 8 (.inr (1, [.int (msum f n d z i).2]))) → Hw G c0 s H → va_S (gA G) s.heap H locs → ∀ ls : Array Slot, lv_has ls 7 [(5, .int (nI i)), (4, .float (msum f n d z i).1), (3, .int z), (2, .int (nI k)), (1, .int d), (0, .ref (gad G 0))] → W p l e ({ frames := 4, cells := 0, slots := 0, locals := 96 } : Room) s m (([.ref (gad G 0), .int d, .int (nI k)] : List Value).toArray) below meth cd H locs 0 0 (MQ below (va_Qi (fun r (c9 : Nat → va_E) => r = spMean f n d z (nI k) ∧ c9 = c) (fun c9 t => Hw G c9 t t.heap) (gA G)) ([.ref (gad G 0), .int d, .int (nI k)] : List Value).toArray s 0 0 (gA G)) (F0 m 34 ls []) := by
        intro N
        induction N with
        | zero =>
          intro i  hN c0 H locs e0 hw hS ls hl
          have o1 : c0 0 = .inr (8, [.ref (gad G 1), .ref (gad G 3), .ref (gad G 5), .ref (gad G 8), .ref (gad G 9), .ref (gad G 11), .ref (gad G 16), .ref (gad G 18), .int (bi im), .ref (gad G 27), .ref (gad G 29), .int iz]) := by rw [e0]; exact vu_e (by decide) o1
          have h1 : c0 1 = .inr (0, [.ref (gad G 2), .int (nI n)]) := by rw [e0]; exact vu_e (by decide) h1
          have h2 : c0 2 = .inl (gI G, 132, .inl f) := by rw [e0]; exact vu_e (by decide) h2
          have z1 : c0 8 = .inr (1, [.int (msum f n d z i).2]) := by rw [e0]; exact vu_s
          have hik : i = k := by omega
          refine lv_iload hx hb dX10_mean_34 (lv_at hl 0 rfl) ?_
          refine lv_iload_n hx hb dX10_mean_36 rfl (lv_at hl 3 rfl) ?_
          refine lv_icmp_ge (tgt := 81) hx hb dX10_mean_37 (by decide) (fun c37 => ?_) (fun q => absurd (nI_le (by omega) (by omega)) q)
          refine lv_aload_n hx hb dX10_mean_81 rfl (lv_at hl 5 rfl) ?_
          refine w_get (C := RX10) (T := TX10) (N := 12) 3 hx hb hts inX10 hown hw (by decide) o1 rfl (by decide) (hts _ tw_155) rfl dX10_mean_82 ?_
          refine lv_iload_n hx hb dX10_mean_85 rfl (lv_at hl 2 rfl) ?_
          refine w_put (C := RX2) (T := TX2) (N := 1) (v := .int z) 0 tyX2 hx hb hts inX2 tyX2_ok nmX2 hown hw hX hS (by decide) z1 rfl (by decide) (hts _ tw_67) rfl rfl (rfl) (rfl) (Nat.le_of_ble_eq_true rfl) dX10_mean_86 (fun H locs hw hS => ?_)
          obtain ⟨w2, ew2⟩ : ∃ wz9 : Nat → va_E, wz9 = va_up c0 8 (.inr (1, [.int z])) := ⟨_, rfl⟩
          have hw : Hw G w2 s H := by rw [ew2]; exact hw
          have o1_2 : w2 0 = .inr (8, [.ref (gad G 1), .ref (gad G 3), .ref (gad G 5), .ref (gad G 8), .ref (gad G 9), .ref (gad G 11), .ref (gad G 16), .ref (gad G 18), .int (bi im), .ref (gad G 27), .ref (gad G 29), .int iz]) := by rw [ew2]; exact vu_e (by decide) o1
          have h1_2 : w2 1 = .inr (0, [.ref (gad G 2), .int (nI n)]) := by rw [ew2]; exact vu_e (by decide) h1
          have h2_2 : w2 2 = .inl (gI G, 132, .inl f) := by rw [ew2]; exact vu_e (by decide) h2
          have z1_2 : w2 8 = .inr (1, [.int z]) := by rw [ew2]; exact vu_s
          refine lv_fload hx hb dX10_mean_89 (lv_at hl 1 rfl) ?_
          rcases msum_b (d := d) (z := z) hn hI i (by omega) with e9 | ⟨cc9, q9, g1, g2, g3, g4⟩
          · refine tpv (y := .float 0) (by rw [e9]) ?_
            refine cSe (rST (As := [_]) ⟨hx, hb, hml, hown, hts⟩ (k_X0_ofFloat_z l ) (cv_X0_ofFloat hts tw_467 rfl rfl ⟨Nat.le_of_ble_eq_true rfl, Nat.le_of_ble_eq_true rfl⟩) rfl hl.1 rfl (by first | exact Nat.le_of_ble_eq_true rfl | decide) dX10_mean_91 ⟨Nat.zero_le _, Nat.zero_le _⟩) ?_
            exact re_Q hx hb hr hlocks (rfl) hw hS dX10_mean_94 (⟨by rw [spMean, if_pos (by rw [c4, c14]; rfl), nI_clamp (by omega), ← hik, e9]; rfl, by rw [ew2, e0, up_up, up_id z10]⟩)
          · skip
            refine cSe (rST (As := [_]) ⟨hx, hb, hml, hown, hts⟩ (k_X0_ofFloat l g1 (by omega) (by omega)) (cv_X0_ofFloat hts tw_467 rfl rfl ⟨Nat.le_of_ble_eq_true rfl, Nat.le_of_ble_eq_true rfl⟩) rfl hl.1 rfl (by first | exact Nat.le_of_ble_eq_true rfl | decide) dX10_mean_91 ⟨Nat.zero_le _, Nat.zero_le _⟩) ?_
            exact re_Q hx hb hr hlocks (rfl) hw hS dX10_mean_94 (⟨by rw [spMean, if_pos (by rw [c4, c14]; rfl), nI_clamp (by omega), ← hik], by rw [ew2, e0, up_up, up_id z10]⟩)
        | succ N ih =>
          intro i  hN c0 H locs e0 hw hS ls hl
          have o1 : c0 0 = .inr (8, [.ref (gad G 1), .ref (gad G 3), .ref (gad G 5), .ref (gad G 8), .ref (gad G 9), .ref (gad G 11), .ref (gad G 16), .ref (gad G 18), .int (bi im), .ref (gad G 27), .ref (gad G 29), .int iz]) := by rw [e0]; exact vu_e (by decide) o1
          have h1 : c0 1 = .inr (0, [.ref (gad G 2), .int (nI n)]) := by rw [e0]; exact vu_e (by decide) h1
          have h2 : c0 2 = .inl (gI G, 132, .inl f) := by rw [e0]; exact vu_e (by decide) h2
          have z1 : c0 8 = .inr (1, [.int (msum f n d z i).2]) := by rw [e0]; exact vu_s
          refine lv_iload hx hb dX10_mean_34 (lv_at hl 0 rfl) ?_
          refine lv_iload_n hx hb dX10_mean_36 rfl (lv_at hl 3 rfl) ?_
          refine lv_icmp_ge (tgt := 81) hx hb dX10_mean_37 (by decide) (fun q => absurd q (nI_ge (by omega) (by omega))) (fun c37 => ?_)
          refine lv_aload_n hx hb dX10_mean_40 rfl (lv_at hl 5 rfl) ?_
          refine w_get (C := RX10) (T := TX10) (N := 12) 3 hx hb hts inX10 hown hw (by decide) o1 rfl (by decide) (hts _ tw_155) rfl dX10_mean_41 ?_
          refine cQi (rV (As := []) ⟨hx, hb, hml, hown, hts⟩ hw (k_X2_nextProfile l z1) (cv_X2_nextProfile hts tw_457 rfl rfl ⟨Nat.le_of_ble_eq_true rfl, Nat.le_of_ble_eq_true rfl⟩) (by decide) z1 rfl rfl hl.1 rfl (by first | exact Nat.le_of_ble_eq_true rfl | decide) dX10_mean_44 ⟨Nat.zero_le _, Nat.zero_le _⟩) hw hS (fun r44 w3 H locs hp44 hw hS => ?_)
          obtain ⟨er44, ec44⟩ := hp44
          subst er44
          have o1_3 : w3 0 = .inr (8, [.ref (gad G 1), .ref (gad G 3), .ref (gad G 5), .ref (gad G 8), .ref (gad G 9), .ref (gad G 11), .ref (gad G 16), .ref (gad G 18), .int (bi im), .ref (gad G 27), .ref (gad G 29), .int iz]) := by rw [ec44]; exact vu_e (by decide) o1
          have h1_3 : w3 1 = .inr (0, [.ref (gad G 2), .int (nI n)]) := by rw [ec44]; exact vu_e (by decide) h1
          have h2_3 : w3 2 = .inl (gI G, 132, .inl f) := by rw [ec44]; exact vu_e (by decide) h2
          have z1_3 : w3 8 = .inr (1, [.int (zn5 (msum f n d z i).2)]) := by rw [ec44]; exact vu_s
          refine lv_istore (lv' := [(6, _), (5, _), (4, _), (3, _), (2, _), (1, _), (0, _)]) hx hb dX10_mean_47 hl (by decide) rfl (fun ls hl => ?_)
          refine lv_fload hx hb dX10_mean_49 (lv_at hl 2 rfl) ?_
          refine lv_aload_n hx hb dX10_mean_51 rfl (lv_at hl 6 rfl) ?_
          refine w_get (C := RX10) (T := TX10) (N := 12) 0 hx hb hts inX10 hown hw (by decide) o1_3 rfl (by decide) (hts _ tw_152) rfl dX10_mean_52 ?_
          refine lv_iload hx hb dX10_mean_55 (lv_at hl 0 rfl) ?_
          refine lv_iload_n hx hb dX10_mean_57 rfl (lv_at hl 5 rfl) ?_
          refine cSe (rV (As := [_, _]) ⟨hx, hb, hml, hown, hts⟩ hw (k_X1_total l (by decide) (by decide) h1_3 h2_3 hn (zp_lt _)) (cv_X1_total hts tw_287 rfl rfl ⟨Nat.le_of_ble_eq_true rfl, Nat.le_of_ble_eq_true rfl⟩) (by decide) h1_3 rfl rfl hl.1 rfl (by first | exact Nat.le_of_ble_eq_true rfl | decide) dX10_mean_58 ⟨Nat.zero_le _, Nat.zero_le _⟩) ?_
          refine lv_i2f hx hb dX10_mean_61 ?_
          refine lv_iconst (v := 1) hx hb dX10_mean_62 (by decide) ?_
          refine lv_iload hx hb dX10_mean_63 (lv_at hl 0 rfl) ?_
          refine lv_iconst (v := 2) hx hb dX10_mean_65 (by decide) ?_
          refine cSe (rST (As := [_, _]) ⟨hx, hb, hml, hown, hts⟩ (k_X9_told l (zp_lt _)) (cv_X9_told hts tw_280 rfl rfl ⟨Nat.le_of_ble_eq_true rfl, Nat.le_of_ble_eq_true rfl⟩) rfl hl.1 rfl (by first | exact Nat.le_of_ble_eq_true rfl | decide) dX10_mean_66 ⟨Nat.zero_le _, Nat.zero_le _⟩) ?_
          refine lv_iadd hx hb dX10_mean_69 ?_
          refine lv_i2f hx hb dX10_mean_70 ?_
          refine lv_fdiv hx hb dX10_mean_71 (term_n hn (zp_lt _) hI) ?_
          refine lv_fadd hx hb dX10_mean_72 (msum_n (k := i + 1) hn hI (by omega)) ?_
          refine lv_fstore (lv' := [(4, _), (6, _), (5, _), (3, _), (2, _), (1, _), (0, _)]) hx hb dX10_mean_73 hl (by decide) rfl (fun ls hl => ?_)
          refine lv_iinc (v := nI (i + 1)) (lv' := [(5, _), (4, _), (6, _), (3, _), (2, _), (1, _), (0, _)]) hx hb dX10_mean_75 hl (k := 2) rfl (inc1 i) (by decide) rfl (fun ls hl => ?_)
          refine lv_goto (tgt := 34) hx hb dX10_mean_78 (by decide) ?_
          exact ih (i + 1) (by omega) _ H locs (by rw [ec44, e0, up_up]; rfl) hw hS ls (lv_sub hl [0, 1, 3, 4, 5, 6] rfl)
      exact L34 k 0 (by omega) _ H locs (up_id z1).symm hw hS ls (lv_sub hl [0, 1, 2, 5, 4, 3] rfl)
    · refine lv_bipush (v := (-2)) hx hb dX10_mean_17 (by decide) ?_
      exact re_Q hx hb hr hlocks (rfl) hw hS dX10_mean_19 (⟨by simp [spMean, c4, c14], rfl⟩)
set_option maxHeartbeats 4000000 in
set_option maxRecDepth 100000 in
theorem k_X10_item (l : Launch) {G : GT} {c : Nat → va_E} {im : Bool} {iz : Int32} (o1 : c 0 = .inr (8, [.ref (gad G 1), .ref (gad G 3), .ref (gad G 5), .ref (gad G 8), .ref (gad G 9), .ref (gad G 11), .ref (gad G 16), .ref (gad G 18), .int (bi im), .ref (gad G 27), .ref (gad G 29), .int iz])) {ss : Nat → Int32} {sz : Nat → Nat} {sg : Nat → Nat → Int32} (sh0 : c 18 = .inl (gS G, 4, .inr (.inr (.inr (.inr (fun s => some (gad G (19 + 2 * s)))))))) (sa : ∀ s, s < 4 → c (19 + 2 * s) = .inr (5, [.ref (gad G (20 + 2 * s)), .int (ss s), .int (nI (sz s))])) (sb : ∀ s, s < 4 → c (20 + 2 * s) = .inl (gI G, 40, .inl (sg s))) (hsz : ∀ s, s < 4 → sz s ≤ 40) {x y : Int32} : Met l yX10_item (wv yX10_item cX10_item 3 (some .long)) ({ frames := 2, cells := 0, slots := 0, locals := 49 } : Room) (va_Pc [.ref (gad G 0), .int x, .int y] (fun U => Hw G c U U.heap)) (vp_Sl (fun r => (isSh x = false ∧ r = -4611686018427387906) ∨ (∃ s0, s0 < 4 ∧ x = nI s0 ∧ ((ss s0 = -1 ∧ r = -4611686018427387915) ∨ (ss s0 ≠ -1 ∧ wn y 0 (nI (sz s0) - 1) = false ∧ r = -4611686018427387916) ∨ (ss s0 ≠ -1 ∧ ∃ i, i < sz s0 ∧ y = nI i ∧ r = itv (ss s0) (sg s0 i)))))) 0 0 (fun _ => False) := by
  refine en (by decide +kernel) (by first | exact Nat.le_of_ble_eq_true rfl | decide) ?_
  intro p e s m below meth cd ls hx hb hr hml hown hts hlocks hnm hw hl
  have hl : lv_has ls 3 [(0, .ref (gad G 0)), (1, .int x), (2, .int y)] := hl
  refine lv_iload_n hx hb dX10_item_0 rfl (lv_at hl 1 rfl) ?_
  refine cSe (rST (As := [_]) ⟨hx, hb, hml, hown, hts⟩ (k_X10_isSheet l ) (cv_X10_isSheet hts tw_791 rfl rfl ⟨Nat.le_of_ble_eq_true rfl, Nat.le_of_ble_eq_true rfl⟩) rfl hl.1 rfl (by first | exact Nat.le_of_ble_eq_true rfl | decide) dX10_item_1 ⟨Nat.zero_le _, Nat.zero_le _⟩) ?_
  refine zb_ne (tgt := 11) hx hb dX10_item_4 (by decide) (fun c4 => ?_) (fun c4 => ?_)
  · obtain ⟨s0, hs0, rfl⟩ := isSh_s c4
    have sk := sa s0 hs0
    have sj := sb s0 hs0
    have zl := hsz s0 hs0
    refine lv_aload_n hx hb dX10_item_11 rfl (lv_at hl 0 rfl) ?_
    refine w_get (C := RX10) (T := TX10) (N := 12) 7 hx hb hts inX10 hown hw (by decide) o1 rfl (by decide) (hts _ tw_159) rfl dX10_item_12 ?_
    refine lv_iload_n hx hb dX10_item_15 rfl (lv_at hl 1 rfl) ?_
    refine w_aald (j := s0) (v := gad G (19 + 2 * s0)) hx hb hw (by decide) sh0 (t0 := 1) rfl (rfl) (hs0) (by decide) rfl dX10_item_16 ?_
    refine cSe (rV (As := []) ⟨hx, hb, hml, hown, hts⟩ hw (k_X6_isMissing l (by omega) (by omega) sk sj zl) (cv_X6_isMissing hts tw_806 rfl rfl ⟨Nat.le_of_ble_eq_true rfl, Nat.le_of_ble_eq_true rfl⟩) (by omega) sk rfl rfl hl.1 rfl (by first | exact Nat.le_of_ble_eq_true rfl | decide) dX10_item_17 ⟨Nat.zero_le _, Nat.zero_le _⟩) ?_
    refine zb_eq (tgt := 27) hx hb dX10_item_20 (by decide) (fun c20 => ?_) (fun c20 => ?_)
    · refine lv_iload_n hx hb dX10_item_27 rfl (lv_at hl 2 rfl) ?_
      refine lv_iconst (v := 0) hx hb dX10_item_28 (by decide) ?_
      refine lv_aload_n hx hb dX10_item_29 rfl (lv_at hl 0 rfl) ?_
      refine w_get (C := RX10) (T := TX10) (N := 12) 7 hx hb hts inX10 hown hw (by decide) o1 rfl (by decide) (hts _ tw_159) rfl dX10_item_30 ?_
      refine lv_iload_n hx hb dX10_item_33 rfl (lv_at hl 1 rfl) ?_
      refine w_aald (j := s0) (v := gad G (19 + 2 * s0)) hx hb hw (by decide) sh0 (t0 := 1) rfl (rfl) (hs0) (by decide) rfl dX10_item_34 ?_
      refine cSe (rV (As := []) ⟨hx, hb, hml, hown, hts⟩ hw (k_X6_size l (by omega) (by omega) sk sj zl) (cv_X6_size hts tw_810 rfl rfl ⟨Nat.le_of_ble_eq_true rfl, Nat.le_of_ble_eq_true rfl⟩) (by omega) sk rfl rfl hl.1 rfl (by first | exact Nat.le_of_ble_eq_true rfl | decide) dX10_item_35 ⟨Nat.zero_le _, Nat.zero_le _⟩) ?_
      refine lv_iconst (v := 1) hx hb dX10_item_38 (by decide) ?_
      refine lv_isub hx hb dX10_item_39 ?_
      refine cSe (rST (As := [_, _, _]) ⟨hx, hb, hml, hown, hts⟩ (k_X10_within l ) (cv_X10_within hts tw_209 rfl rfl ⟨Nat.le_of_ble_eq_true rfl, Nat.le_of_ble_eq_true rfl⟩) rfl hl.1 rfl (by first | exact Nat.le_of_ble_eq_true rfl | decide) dX10_item_40 ⟨Nat.zero_le _, Nat.zero_le _⟩) ?_
      refine zb_ne (tgt := 50) hx hb dX10_item_43 (by decide) (fun c43 => ?_) (fun c43 => ?_)
      · obtain ⟨i, hi9, rfl⟩ := wn_ix zl c43
        refine lv_aload_n hx hb dX10_item_50 rfl (lv_at hl 0 rfl) ?_
        refine w_get (C := RX10) (T := TX10) (N := 12) 7 hx hb hts inX10 hown hw (by decide) o1 rfl (by decide) (hts _ tw_159) rfl dX10_item_51 ?_
        refine lv_iload_n hx hb dX10_item_54 rfl (lv_at hl 1 rfl) ?_
        refine w_aald (j := s0) (v := gad G (19 + 2 * s0)) hx hb hw (by decide) sh0 (t0 := 1) rfl (rfl) (hs0) (by decide) rfl dX10_item_55 ?_
        refine lv_iload_n hx hb dX10_item_56 rfl (lv_at hl 2 rfl) ?_
        refine cSl (rV (As := [_]) ⟨hx, hb, hml, hown, hts⟩ hw (k_X6_told l (by omega) (by omega) sk sj zl (by omega)) (cv_X6_told hts tw_824 rfl rfl ⟨Nat.le_of_ble_eq_true rfl, Nat.le_of_ble_eq_true rfl⟩) (by omega) sk rfl rfl hl.1 rfl (by first | exact Nat.le_of_ble_eq_true rfl | decide) dX10_item_57 ⟨Nat.zero_le _, Nat.zero_le _⟩) ?_
        exact re_SL hx hb hr hlocks dX10_item_60 (Or.inr ⟨s0, hs0, rfl, Or.inr (Or.inr ⟨of_decide_eq_false c20, i, hi9, rfl, rfl⟩)⟩)
      · refine lv_ldc2 (v := (-4611686018427387916)) hx hb hown (hts _ tw_823) dX10_item_46 ?_
        exact re_SL hx hb hr hlocks dX10_item_49 (Or.inr ⟨s0, hs0, rfl, Or.inr (Or.inl ⟨of_decide_eq_false c20, c43, rfl⟩)⟩)
    · refine lv_ldc2 (v := (-4611686018427387915)) hx hb hown (hts _ tw_822) dX10_item_23 ?_
      exact re_SL hx hb hr hlocks dX10_item_26 (Or.inr ⟨s0, hs0, rfl, Or.inl ⟨of_decide_eq_true c20, rfl⟩⟩)
  · refine lv_ldc2 (v := (-4611686018427387906)) hx hb hown (hts _ tw_445) dX10_item_7 ?_
    exact re_SL hx hb hr hlocks dX10_item_10 (Or.inl ⟨c4, rfl⟩)
set_option maxHeartbeats 4000000 in
set_option maxRecDepth 100000 in
theorem k_X11_share (l : Launch) {G : GT} {c : Nat → va_E} {n n1 rn tn n2 qn : Nat} {z hd sd fr tto tk wo iz : Int32} {im : Bool} (o1 : c 32 = .inr (9, [.ref (gad G 33), .ref (gad G 34), .ref (gad G 35), .int (nI n), .int (nI n1), .int z, .int hd, .int sd, .ref (gad G 36), .ref (gad G 37), .int (nI rn), .ref (gad G 38), .int (nI tn), .int fr, .int tto, .int tk, .int wo, .ref (gad G 39), .ref (gad G 40), .ref (gad G 41), .ref (gad G 42), .ref (gad G 43), .ref (gad G 44), .int (nI n2), .int (nI qn), .int iz, .int (bi im)])) {f : Nat → Int32} (a1 : c 33 = .inl (gI G, 132, .inl f)) (hn : n ≤ 12) {a d w : Int32} (hI : cI f n) : Met l yX11_share (wv yX11_share cX11_share 4 (some .long)) ({ frames := 6, cells := 0, slots := 0, locals := 142 } : Room) (va_Pc [.ref (gad G 32), .int a, .int d, .int w] (fun U => Hw G c U U.heap)) (va_Ql (fun r (c9 : Nat → va_E) => r = spShare f n a d w ∧ ∃ h8 s8 : Int32, c9 = va_up c 32 (.inr (9, [.ref (gad G 33), .ref (gad G 34), .ref (gad G 35), .int (nI n), .int (nI n1), .int z, .int (h8), .int (s8), .ref (gad G 36), .ref (gad G 37), .int (nI rn), .ref (gad G 38), .int (nI tn), .int fr, .int tto, .int tk, .int wo, .ref (gad G 39), .ref (gad G 40), .ref (gad G 41), .ref (gad G 42), .ref (gad G 43), .ref (gad G 44), .int (nI n2), .int (nI qn), .int iz, .int (bi im)]))) (fun c9 t => Hw G c9 t t.heap) (gA G)) 0 0 (gA G) := by
  refine en (by decide +kernel) (by first | exact Nat.le_of_ble_eq_true rfl | decide) ?_
  intro p e s m below meth cd ls hx hb hr hml hown hts hlocks hnm hw hl
  have hl : lv_has ls 4 [(0, .ref (gad G 32)), (1, .int a), (2, .int d), (3, .int w)] := hl
  have hX : Sw G s s.heap := hw.2.2.2.2.2
  have hS : va_S (gA G) s.heap s.heap [] := va_S.rf
  obtain ⟨H, hH⟩ : ∃ wz9, wz9 = s.heap := ⟨_, rfl⟩
  obtain ⟨locs, hlocs⟩ : ∃ wz9 : List Loc, wz9 = [] := ⟨_, rfl⟩
  have hw : Hw G c s H := by rw [hH]; exact hw
  have hS : va_S (gA G) s.heap H locs := by rw [hH, hlocs]; exact hS
  suffices hgo : W p l e ({ frames := 6, cells := 0, slots := 0, locals := 142 } : Room) s m (([.ref (gad G 32), .int a, .int d, .int w] : List Value).toArray) below meth cd H locs 0 0 (MQ below (va_Ql (fun r (c9 : Nat → va_E) => r = spShare f n a d w ∧ ∃ h8 s8 : Int32, c9 = va_up c 32 (.inr (9, [.ref (gad G 33), .ref (gad G 34), .ref (gad G 35), .int (nI n), .int (nI n1), .int z, .int (h8), .int (s8), .ref (gad G 36), .ref (gad G 37), .int (nI rn), .ref (gad G 38), .int (nI tn), .int fr, .int tto, .int tk, .int wo, .ref (gad G 39), .ref (gad G 40), .ref (gad G 41), .ref (gad G 42), .ref (gad G 43), .ref (gad G 44), .int (nI n2), .int (nI qn), .int iz, .int (bi im)]))) (fun c9 t => Hw G c9 t t.heap) (gA G)) ([.ref (gad G 32), .int a, .int d, .int w] : List Value).toArray s 0 0 (gA G)) (F0 m 0 ls []) by rw [hH, hlocs] at hgo; exact hgo
  refine lv_iload_n hx hb dX11_share_0 rfl (lv_at hl 1 rfl) ?_
  refine lv_iload_n hx hb dX11_share_1 rfl (lv_at hl 2 rfl) ?_
  refine cSe (rST (As := [_, _]) ⟨hx, hb, hml, hown, hts⟩ (k_X11_isAsked l ) (cv_X11_isAsked hts tw_1047 rfl rfl ⟨Nat.le_of_ble_eq_true rfl, Nat.le_of_ble_eq_true rfl⟩) rfl hl.1 rfl (by first | exact Nat.le_of_ble_eq_true rfl | decide) dX11_share_2 ⟨Nat.zero_le _, Nat.zero_le _⟩) ?_
  refine zb_eq (tgt := 18) hx hb dX11_share_5 (by decide) (fun c5 => ?_) (fun c5 => ?_)
  · refine lv_ldc2 (v := (-4611686018427387906)) hx hb hown (hts _ tw_1120) dX11_share_18 ?_
    exact re_QL hx hb hr hlocks hw hS dX11_share_21 (⟨by rw [spShare, if_neg (by rw [c5, Bool.false_and]; decide)], hd, sd, (up_id o1).symm⟩)
  · refine lv_iload_n hx hb dX11_share_8 rfl (lv_at hl 3 rfl) ?_
    refine lv_iconst (v := 1) hx hb dX11_share_9 (by decide) ?_
    refine lv_bipush (v := 9) hx hb dX11_share_10 (by decide) ?_
    refine cSe (rST (As := [_, _, _]) ⟨hx, hb, hml, hown, hts⟩ (k_X11_in l ) (cv_X11_in hts tw_987 rfl rfl ⟨Nat.le_of_ble_eq_true rfl, Nat.le_of_ble_eq_true rfl⟩) rfl hl.1 rfl (by first | exact Nat.le_of_ble_eq_true rfl | decide) dX11_share_12 ⟨Nat.zero_le _, Nat.zero_le _⟩) ?_
    refine zb_ne (tgt := 22) hx hb dX11_share_15 (by decide) (fun c15 => ?_) (fun c15 => ?_)
    · have c59 := c5
      rw [Bool.and_eq_true] at c5
      obtain ⟨ca, cb⟩ := c5
      obtain ⟨p0, hp0, rfl⟩ := isP_t ca
      obtain ⟨k, hk1, hk2, rfl⟩ := wn_nI (a := 1) (b := 9) (by decide) (by decide) c15
      refine lv_aload_n hx hb dX11_share_22 rfl (lv_at hl 0 rfl) ?_
      refine lv_iload_n hx hb dX11_share_23 rfl (lv_at hl 1 rfl) ?_
      refine lv_iload_n hx hb dX11_share_24 rfl (lv_at hl 2 rfl) ?_
      refine cQi (rV (As := [_, _]) ⟨hx, hb, hml, hown, hts⟩ hw (k_X11_isNow l o1 a1 hn hp0 hI) (cv_X11_isNow hts tw_1053 rfl rfl ⟨Nat.le_of_ble_eq_true rfl, Nat.le_of_ble_eq_true rfl⟩) (by decide) o1 rfl rfl hl.1 rfl (by first | exact Nat.le_of_ble_eq_true rfl | decide) dX11_share_25 ⟨Nat.zero_le _, Nat.zero_le _⟩) hw hS (fun r25 w1 H locs hp25 hw hS => ?_)
      obtain ⟨er25, ec25⟩ := hp25
      subst er25
      have o1_1 : w1 32 = .inr (9, [.ref (gad G 33), .ref (gad G 34), .ref (gad G 35), .int (nI n), .int (nI n1), .int z, .int (hdM f n (p0) d), .int (stM f n (p0) d), .ref (gad G 36), .ref (gad G 37), .int (nI rn), .ref (gad G 38), .int (nI tn), .int fr, .int tto, .int tk, .int wo, .ref (gad G 39), .ref (gad G 40), .ref (gad G 41), .ref (gad G 42), .ref (gad G 43), .ref (gad G 44), .int (nI n2), .int (nI qn), .int iz, .int (bi im)]) := by rw [ec25]; exact vu_s
      have a1_1 : w1 33 = .inl (gI G, 132, .inl f) := by rw [ec25]; exact (vu_e (by decide) a1)
      refine lv_i2d hx hb dX11_share_28 ?_
      refine lv_iload_n hx hb dX11_share_29 rfl (lv_at hl 3 rfl) ?_
      refine lv_i2d hx hb dX11_share_30 ?_
      refine lv_ddiv hx hb dX11_share_31 (nan_of (quo_b hk1 hk2)) ?_
      refine cSl (rST (As := [_]) ⟨hx, hb, hml, hown, hts⟩ (k_Jxe99ae_doubleToLongBits_ccdee l (eq_of (quo_b hk1 hk2))) (cv_Jxe99ae_doubleToLongBits_ccdee hts tw_1121 rfl rfl ⟨Nat.le_of_ble_eq_true rfl, Nat.le_of_ble_eq_true rfl⟩) rfl hl.1 rfl (by first | exact Nat.le_of_ble_eq_true rfl | decide) dX11_share_32 ⟨Nat.zero_le _, Nat.zero_le _⟩) ?_
      exact re_QL hx hb hr hlocks hw hS dX11_share_35 (⟨by rw [spShare, if_pos (by rw [c59, c15]; rfl), pN_nI hp0], _, _, ec25⟩)
    · refine lv_ldc2 (v := (-4611686018427387906)) hx hb hown (hts _ tw_1120) dX11_share_18 ?_
      exact re_QL hx hb hr hlocks hw hS dX11_share_21 (⟨by rw [spShare, if_neg (by rw [c15, Bool.and_false]; decide)], hd, sd, (up_id o1).symm⟩)
set_option maxHeartbeats 4000000 in
set_option maxRecDepth 100000 in
theorem k_X11_mean (l : Launch) {G : GT} {c : Nat → va_E} {n n1 rn tn n2 qn : Nat} {z hd sd fr tto tk wo iz : Int32} {im : Bool} (o1 : c 32 = .inr (9, [.ref (gad G 33), .ref (gad G 34), .ref (gad G 35), .int (nI n), .int (nI n1), .int z, .int hd, .int sd, .ref (gad G 36), .ref (gad G 37), .int (nI rn), .ref (gad G 38), .int (nI tn), .int fr, .int tto, .int tk, .int wo, .ref (gad G 39), .ref (gad G 40), .ref (gad G 41), .ref (gad G 42), .ref (gad G 43), .ref (gad G 44), .int (nI n2), .int (nI qn), .int iz, .int (bi im)])) {f : Nat → Int32} (a1 : c 33 = .inl (gI G, 132, .inl f)) (hn : n ≤ 12) {d w : Int32} (hI : cI f n) : Met l yX11_mean (wv yX11_mean cX11_mean 7 (some .int)) ({ frames := 6, cells := 0, slots := 0, locals := 142 } : Room) (va_Pc [.ref (gad G 32), .int d, .int w] (fun U => Hw G c U U.heap)) (va_Qi (fun r (c9 : Nat → va_E) => r = spMean f n d z w ∧ ∃ h8 s8 : Int32, c9 = va_up c 32 (.inr (9, [.ref (gad G 33), .ref (gad G 34), .ref (gad G 35), .int (nI n), .int (nI n1), .int z, .int (h8), .int (s8), .ref (gad G 36), .ref (gad G 37), .int (nI rn), .ref (gad G 38), .int (nI tn), .int fr, .int tto, .int tk, .int wo, .ref (gad G 39), .ref (gad G 40), .ref (gad G 41), .ref (gad G 42), .ref (gad G 43), .ref (gad G 44), .int (nI n2), .int (nI qn), .int iz, .int (bi im)]))) (fun c9 t => Hw G c9 t t.heap) (gA G)) 0 0 (gA G) := by
  refine en (by decide +kernel) (by first | exact Nat.le_of_ble_eq_true rfl | decide) ?_
  intro p e s m below meth cd ls hx hb hr hml hown hts hlocks hnm hw hl
  have hl : lv_has ls 7 [(0, .ref (gad G 32)), (1, .int d), (2, .int w)] := hl
  have hX : Sw G s s.heap := hw.2.2.2.2.2
  have hS : va_S (gA G) s.heap s.heap [] := va_S.rf
  obtain ⟨H, hH⟩ : ∃ wz9, wz9 = s.heap := ⟨_, rfl⟩
  obtain ⟨locs, hlocs⟩ : ∃ wz9 : List Loc, wz9 = [] := ⟨_, rfl⟩
  have hw : Hw G c s H := by rw [hH]; exact hw
  have hS : va_S (gA G) s.heap H locs := by rw [hH, hlocs]; exact hS
  suffices hgo : W p l e ({ frames := 6, cells := 0, slots := 0, locals := 142 } : Room) s m (([.ref (gad G 32), .int d, .int w] : List Value).toArray) below meth cd H locs 0 0 (MQ below (va_Qi (fun r (c9 : Nat → va_E) => r = spMean f n d z w ∧ ∃ h8 s8 : Int32, c9 = va_up c 32 (.inr (9, [.ref (gad G 33), .ref (gad G 34), .ref (gad G 35), .int (nI n), .int (nI n1), .int z, .int (h8), .int (s8), .ref (gad G 36), .ref (gad G 37), .int (nI rn), .ref (gad G 38), .int (nI tn), .int fr, .int tto, .int tk, .int wo, .ref (gad G 39), .ref (gad G 40), .ref (gad G 41), .ref (gad G 42), .ref (gad G 43), .ref (gad G 44), .int (nI n2), .int (nI qn), .int iz, .int (bi im)]))) (fun c9 t => Hw G c9 t t.heap) (gA G)) ([.ref (gad G 32), .int d, .int w] : List Value).toArray s 0 0 (gA G)) (F0 m 0 ls []) by rw [hH, hlocs] at hgo; exact hgo
  refine lv_iload_n hx hb dX11_mean_0 rfl (lv_at hl 1 rfl) ?_
  refine cSe (rST (As := [_]) ⟨hx, hb, hml, hown, hts⟩ (k_X11_isDay l ) (cv_X11_isDay hts tw_1050 rfl rfl ⟨Nat.le_of_ble_eq_true rfl, Nat.le_of_ble_eq_true rfl⟩) rfl hl.1 rfl (by first | exact Nat.le_of_ble_eq_true rfl | decide) dX11_mean_1 ⟨Nat.zero_le _, Nat.zero_le _⟩) ?_
  refine zb_eq (tgt := 17) hx hb dX11_mean_4 (by decide) (fun c4 => ?_) (fun c4 => ?_)
  · refine lv_bipush (v := (-2)) hx hb dX11_mean_17 (by decide) ?_
    exact re_Q hx hb hr hlocks (rfl) hw hS dX11_mean_19 (⟨by simp [spMean, c4], hd, sd, (up_id o1).symm⟩)
  · refine lv_iload_n hx hb dX11_mean_7 rfl (lv_at hl 2 rfl) ?_
    refine lv_iconst (v := 1) hx hb dX11_mean_8 (by decide) ?_
    refine lv_bipush (v := 20) hx hb dX11_mean_9 (by decide) ?_
    refine cSe (rST (As := [_, _, _]) ⟨hx, hb, hml, hown, hts⟩ (k_X11_in l ) (cv_X11_in hts tw_987 rfl rfl ⟨Nat.le_of_ble_eq_true rfl, Nat.le_of_ble_eq_true rfl⟩) rfl hl.1 rfl (by first | exact Nat.le_of_ble_eq_true rfl | decide) dX11_mean_11 ⟨Nat.zero_le _, Nat.zero_le _⟩) ?_
    refine zb_ne (tgt := 20) hx hb dX11_mean_14 (by decide) (fun c14 => ?_) (fun c14 => ?_)
    · obtain ⟨k, hk1, hk2, rfl⟩ := wn_nI (a := 1) (b := 20) (by decide) (by decide) c14
      refine lv_aload_n hx hb dX11_mean_20 rfl (lv_at hl 0 rfl) ?_
      refine w_get (C := RX11) (T := TX11) (N := 27) 5 hx hb hts inX11 hown hw (by decide) o1 rfl (by decide) (hts _ tw_890) rfl dX11_mean_21 ?_
      refine lv_istore_n (lv' := [(3, _), (0, _), (1, _), (2, _)]) hx hb dX11_mean_24 rfl hl (by decide) rfl (fun ls hl => ?_)
      refine lv_fconst0 hx hb dX11_mean_25 ?_
      refine lv_fstore (lv' := [(4, _), (3, _), (0, _), (1, _), (2, _)]) hx hb dX11_mean_26 hl (by decide) rfl (fun ls hl => ?_)
      refine lv_iconst (v := 0) hx hb dX11_mean_28 (by decide) ?_
      refine lv_istore (lv' := [(5, _), (4, _), (3, _), (0, _), (1, _), (2, _)]) hx hb dX11_mean_29 hl (by decide) rfl (fun ls hl => ?_)
      have L31 : ∀ (N : Nat) (i : Nat) (h7 s7 : Int32), (i + N = k) → ∀ (c0 : Nat → va_E) (H : Heap) (locs : List Loc), (c0 = va_up c 32 (.inr (9, [.ref (gad G 33), .ref (gad G 34), .ref (gad G 35), .int (nI n), .int (nI n1), .int ((msum f n d z i).2), .int (h7), .int (s7), .ref (gad G 36), .ref (gad G 37), .int (nI rn), .ref (gad G 38), .int (nI tn), .int fr, .int tto, .int tk, .int wo, .ref (gad G 39), .ref (gad G 40), .ref (gad G 41), .ref (gad G 42), .ref (gad G 43), .ref (gad G 44), .int (nI n2), .int (nI qn), .int iz, .int (bi im)]))) → Hw G c0 s H → va_S (gA G) s.heap H locs → ∀ ls : Array Slot, lv_has ls 7 [(5, .int (nI i)), (4, .float (msum f n d z i).1), (3, .int z), (2, .int (nI k)), (1, .int d), (0, .ref (gad G 32))] → W p l e ({ frames := 6, cells := 0, slots := 0, locals := 142 } : Room) s m (([.ref (gad G 32), .int d, .int (nI k)] : List Value).toArray) below meth cd H locs 0 0 (MQ below (va_Qi (fun r (c9 : Nat → va_E) => r = spMean f n d z (nI k) ∧ ∃ h8 s8 : Int32, c9 = va_up c 32 (.inr (9, [.ref (gad G 33), .ref (gad G 34), .ref (gad G 35), .int (nI n), .int (nI n1), .int z, .int (h8), .int (s8), .ref (gad G 36), .ref (gad G 37), .int (nI rn), .ref (gad G 38), .int (nI tn), .int fr, .int tto, .int tk, .int wo, .ref (gad G 39), .ref (gad G 40), .ref (gad G 41), .ref (gad G 42), .ref (gad G 43), .ref (gad G 44), .int (nI n2), .int (nI qn), .int iz, .int (bi im)]))) (fun c9 t => Hw G c9 t t.heap) (gA G)) ([.ref (gad G 32), .int d, .int (nI k)] : List Value).toArray s 0 0 (gA G)) (F0 m 31 ls []) := by
        intro N
        induction N with
        | zero =>
          intro i  h7 s7  hN c0 H locs e0 hw hS ls hl
          have o1 : c0 32 = .inr (9, [.ref (gad G 33), .ref (gad G 34), .ref (gad G 35), .int (nI n), .int (nI n1), .int ((msum f n d z i).2), .int (h7), .int (s7), .ref (gad G 36), .ref (gad G 37), .int (nI rn), .ref (gad G 38), .int (nI tn), .int fr, .int tto, .int tk, .int wo, .ref (gad G 39), .ref (gad G 40), .ref (gad G 41), .ref (gad G 42), .ref (gad G 43), .ref (gad G 44), .int (nI n2), .int (nI qn), .int iz, .int (bi im)]) := by rw [e0]; exact vu_s
          have a1 : c0 33 = .inl (gI G, 132, .inl f) := by rw [e0]; exact vu_e (by decide) a1
          have hik : i = k := by omega
          refine lv_iload hx hb dX11_mean_31 (lv_at hl 0 rfl) ?_
          refine lv_iload_n hx hb dX11_mean_33 rfl (lv_at hl 3 rfl) ?_
          refine lv_icmp_ge (tgt := 72) hx hb dX11_mean_34 (by decide) (fun c34 => ?_) (fun q => absurd (nI_le (by omega) (by omega)) q)
          refine lv_aload_n hx hb dX11_mean_72 rfl (lv_at hl 5 rfl) ?_
          refine lv_iload_n hx hb dX11_mean_73 rfl (lv_at hl 2 rfl) ?_
          refine w_put (C := RX11) (T := TX11) (N := 27) (v := .int z) 5 tyX11 hx hb hts inX11 tyX11_ok nmX11 hown hw hX hS (by decide) o1 rfl (by decide) (hts _ tw_890) rfl rfl (rfl) (rfl) (Nat.le_of_ble_eq_true rfl) dX11_mean_74 (fun H locs hw hS => ?_)
          obtain ⟨w2, ew2⟩ : ∃ wz9 : Nat → va_E, wz9 = va_up c0 32 (.inr (9, [.ref (gad G 33), .ref (gad G 34), .ref (gad G 35), .int (nI n), .int (nI n1), .int z, .int (h7), .int (s7), .ref (gad G 36), .ref (gad G 37), .int (nI rn), .ref (gad G 38), .int (nI tn), .int fr, .int tto, .int tk, .int wo, .ref (gad G 39), .ref (gad G 40), .ref (gad G 41), .ref (gad G 42), .ref (gad G 43), .ref (gad G 44), .int (nI n2), .int (nI qn), .int iz, .int (bi im)])) := ⟨_, rfl⟩
          have hw : Hw G w2 s H := by rw [ew2]; exact hw
          have o1_2 : w2 32 = .inr (9, [.ref (gad G 33), .ref (gad G 34), .ref (gad G 35), .int (nI n), .int (nI n1), .int z, .int (h7), .int (s7), .ref (gad G 36), .ref (gad G 37), .int (nI rn), .ref (gad G 38), .int (nI tn), .int fr, .int tto, .int tk, .int wo, .ref (gad G 39), .ref (gad G 40), .ref (gad G 41), .ref (gad G 42), .ref (gad G 43), .ref (gad G 44), .int (nI n2), .int (nI qn), .int iz, .int (bi im)]) := by rw [ew2]; exact vu_s
          have a1_2 : w2 33 = .inl (gI G, 132, .inl f) := by rw [ew2]; exact vu_e (by decide) a1
          refine lv_fload hx hb dX11_mean_77 (lv_at hl 1 rfl) ?_
          rcases msum_b (d := d) (z := z) hn hI i (by omega) with e9 | ⟨cc9, q9, g1, g2, g3, g4⟩
          · refine cSe (rST (As := [_]) ⟨hx, hb, hml, hown, hts⟩ (k_Jxf58ca_floatToIntBits_5c35a l (by rw [e9]; exact zq32)) (cv_Jxf58ca_floatToIntBits_5c35a hts tw_1144 rfl rfl ⟨Nat.le_of_ble_eq_true rfl, Nat.le_of_ble_eq_true rfl⟩) rfl hl.1 rfl (by first | exact Nat.le_of_ble_eq_true rfl | decide) dX11_mean_79 ⟨Nat.zero_le _, Nat.zero_le _⟩) ?_
            exact re_Q hx hb hr hlocks (rfl) hw hS dX11_mean_82 (⟨by rw [spMean, if_pos (by rw [show isDy d = true from c4, c14]; rfl), nI_clamp (by omega), ← hik], h7, s7, by rw [ew2, e0, up_up]⟩)
          · refine cSe (rST (As := [_]) ⟨hx, hb, hml, hown, hts⟩ (k_Jxf58ca_floatToIntBits_5c35a l (eq32 g1)) (cv_Jxf58ca_floatToIntBits_5c35a hts tw_1144 rfl rfl ⟨Nat.le_of_ble_eq_true rfl, Nat.le_of_ble_eq_true rfl⟩) rfl hl.1 rfl (by first | exact Nat.le_of_ble_eq_true rfl | decide) dX11_mean_79 ⟨Nat.zero_le _, Nat.zero_le _⟩) ?_
            exact re_Q hx hb hr hlocks (rfl) hw hS dX11_mean_82 (⟨by rw [spMean, if_pos (by rw [show isDy d = true from c4, c14]; rfl), nI_clamp (by omega), ← hik], h7, s7, by rw [ew2, e0, up_up]⟩)
        | succ N ih =>
          intro i  h7 s7  hN c0 H locs e0 hw hS ls hl
          have o1 : c0 32 = .inr (9, [.ref (gad G 33), .ref (gad G 34), .ref (gad G 35), .int (nI n), .int (nI n1), .int ((msum f n d z i).2), .int (h7), .int (s7), .ref (gad G 36), .ref (gad G 37), .int (nI rn), .ref (gad G 38), .int (nI tn), .int fr, .int tto, .int tk, .int wo, .ref (gad G 39), .ref (gad G 40), .ref (gad G 41), .ref (gad G 42), .ref (gad G 43), .ref (gad G 44), .int (nI n2), .int (nI qn), .int iz, .int (bi im)]) := by rw [e0]; exact vu_s
          have a1 : c0 33 = .inl (gI G, 132, .inl f) := by rw [e0]; exact vu_e (by decide) a1
          refine lv_iload hx hb dX11_mean_31 (lv_at hl 0 rfl) ?_
          refine lv_iload_n hx hb dX11_mean_33 rfl (lv_at hl 3 rfl) ?_
          refine lv_icmp_ge (tgt := 72) hx hb dX11_mean_34 (by decide) (fun q => absurd q (nI_ge (by omega) (by omega))) (fun c34 => ?_)
          refine lv_aload_n hx hb dX11_mean_37 rfl (lv_at hl 5 rfl) ?_
          refine cQi (rV (As := []) ⟨hx, hb, hml, hown, hts⟩ hw (k_X11_drawnOne l o1) (cv_X11_drawnOne hts tw_1135 rfl rfl ⟨Nat.le_of_ble_eq_true rfl, Nat.le_of_ble_eq_true rfl⟩) (by decide) o1 rfl rfl hl.1 rfl (by first | exact Nat.le_of_ble_eq_true rfl | decide) dX11_mean_38 ⟨Nat.zero_le _, Nat.zero_le _⟩) hw hS (fun r38 w3 H locs hp38 hw hS => ?_)
          obtain ⟨er38, ec38⟩ := hp38
          subst er38
          have o1_3 : w3 32 = .inr (9, [.ref (gad G 33), .ref (gad G 34), .ref (gad G 35), .int (nI n), .int (nI n1), .int (zn5 (msum f n d z i).2), .int (h7), .int (s7), .ref (gad G 36), .ref (gad G 37), .int (nI rn), .ref (gad G 38), .int (nI tn), .int fr, .int tto, .int tk, .int wo, .ref (gad G 39), .ref (gad G 40), .ref (gad G 41), .ref (gad G 42), .ref (gad G 43), .ref (gad G 44), .int (nI n2), .int (nI qn), .int iz, .int (bi im)]) := by rw [ec38]; exact vu_s
          have a1_3 : w3 33 = .inl (gI G, 132, .inl f) := by rw [ec38]; exact (vu_e (by decide) a1)
          refine lv_istore (lv' := [(6, _), (5, _), (4, _), (3, _), (2, _), (1, _), (0, _)]) hx hb dX11_mean_41 hl (by decide) rfl (fun ls hl => ?_)
          refine lv_fload hx hb dX11_mean_43 (lv_at hl 2 rfl) ?_
          refine lv_aload_n hx hb dX11_mean_45 rfl (lv_at hl 6 rfl) ?_
          refine lv_iload hx hb dX11_mean_46 (lv_at hl 0 rfl) ?_
          refine lv_iload_n hx hb dX11_mean_48 rfl (lv_at hl 5 rfl) ?_
          refine cQi (rV (As := [_, _]) ⟨hx, hb, hml, hown, hts⟩ hw (k_X11_isNow l o1_3 a1_3 hn (zp_lt _) hI) (cv_X11_isNow hts tw_1053 rfl rfl ⟨Nat.le_of_ble_eq_true rfl, Nat.le_of_ble_eq_true rfl⟩) (by decide) o1_3 rfl rfl hl.1 rfl (by first | exact Nat.le_of_ble_eq_true rfl | decide) dX11_mean_49 ⟨Nat.zero_le _, Nat.zero_le _⟩) hw hS (fun r49 w4 H locs hp49 hw hS => ?_)
          obtain ⟨er49, ec49⟩ := hp49
          subst er49
          have o1_4 : w4 32 = .inr (9, [.ref (gad G 33), .ref (gad G 34), .ref (gad G 35), .int (nI n), .int (nI n1), .int (zn5 (msum f n d z i).2), .int (hdM f n (zp (msum f n d z i).2) d), .int (stM f n (zp (msum f n d z i).2) d), .ref (gad G 36), .ref (gad G 37), .int (nI rn), .ref (gad G 38), .int (nI tn), .int fr, .int tto, .int tk, .int wo, .ref (gad G 39), .ref (gad G 40), .ref (gad G 41), .ref (gad G 42), .ref (gad G 43), .ref (gad G 44), .int (nI n2), .int (nI qn), .int iz, .int (bi im)]) := by rw [ec49]; exact vu_s
          have a1_4 : w4 33 = .inl (gI G, 132, .inl f) := by rw [ec49]; exact (vu_e (by decide) a1_3)
          refine lv_i2f hx hb dX11_mean_52 ?_
          refine lv_iconst (v := 1) hx hb dX11_mean_53 (by decide) ?_
          refine lv_iload hx hb dX11_mean_54 (lv_at hl 0 rfl) ?_
          refine lv_iconst (v := 2) hx hb dX11_mean_56 (by decide) ?_
          refine cSe (rST (As := [_, _]) ⟨hx, hb, hml, hown, hts⟩ (k_X11_traitOf l (zp_lt _)) (cv_X11_traitOf hts tw_1034 rfl rfl ⟨Nat.le_of_ble_eq_true rfl, Nat.le_of_ble_eq_true rfl⟩) rfl hl.1 rfl (by first | exact Nat.le_of_ble_eq_true rfl | decide) dX11_mean_57 ⟨Nat.zero_le _, Nat.zero_le _⟩) ?_
          refine lv_iadd hx hb dX11_mean_60 ?_
          refine lv_i2f hx hb dX11_mean_61 ?_
          refine lv_fdiv hx hb dX11_mean_62 (term_n hn (zp_lt _) hI) ?_
          refine lv_fadd hx hb dX11_mean_63 (msum_n (k := i + 1) hn hI (by omega)) ?_
          refine lv_fstore (lv' := [(4, _), (6, _), (5, _), (3, _), (2, _), (1, _), (0, _)]) hx hb dX11_mean_64 hl (by decide) rfl (fun ls hl => ?_)
          refine lv_iinc (v := nI (i + 1)) (lv' := [(5, _), (4, _), (6, _), (3, _), (2, _), (1, _), (0, _)]) hx hb dX11_mean_66 hl (k := 2) rfl (inc1 i) (by decide) rfl (fun ls hl => ?_)
          refine lv_goto (tgt := 31) hx hb dX11_mean_69 (by decide) ?_
          exact ih (i + 1) _ _ (by omega) _ H locs (by rw [ec49, ec38, e0, up_up, up_up]; rfl) hw hS ls (lv_sub hl [0, 1, 3, 4, 5, 6] rfl)
      exact L31 k 0 hd sd (by omega) _ H locs (up_id o1).symm hw hS ls (lv_sub hl [0, 1, 2, 5, 4, 3] rfl)
    · refine lv_bipush (v := (-2)) hx hb dX11_mean_17 (by decide) ?_
      exact re_Q hx hb hr hlocks (rfl) hw hS dX11_mean_19 (⟨by simp [spMean, c4, c14], hd, sd, (up_id o1).symm⟩)
set_option maxHeartbeats 4000000 in
set_option maxRecDepth 100000 in
theorem k_X11_item (l : Launch) {G : GT} {c : Nat → va_E} {n n1 rn tn n2 qn : Nat} {z hd sd fr tto tk wo iz : Int32} {im : Bool} (o1 : c 32 = .inr (9, [.ref (gad G 33), .ref (gad G 34), .ref (gad G 35), .int (nI n), .int (nI n1), .int z, .int hd, .int sd, .ref (gad G 36), .ref (gad G 37), .int (nI rn), .ref (gad G 38), .int (nI tn), .int fr, .int tto, .int tk, .int wo, .ref (gad G 39), .ref (gad G 40), .ref (gad G 41), .ref (gad G 42), .ref (gad G 43), .ref (gad G 44), .int (nI n2), .int (nI qn), .int iz, .int (bi im)])) {ss si it : Nat → Int32} (b1 : c 40 = .inl (gI G, 4, .inl ss)) (b2 : c 41 = .inl (gI G, 4, .inl si)) (b3 : c 42 = .inl (gI G, 160, .inl it)) {x y : Int32} {sz : Nat → Nat} (hsi : ∀ s, s < 4 → si s = nI (sz s)) (hz40 : ∀ s, s < 4 → sz s ≤ 40) : Met l yX11_item (wv yX11_item cX11_item 4 (some .long)) ({ frames := 3, cells := 0, slots := 0, locals := 64 } : Room) (va_Pc [.ref (gad G 32), .int x, .int y] (fun U => Hw G c U U.heap)) (vp_Sl (fun r => (isSh x = false ∧ r = -4611686018427387906) ∨ (∃ s0, s0 < 4 ∧ x = nI s0 ∧ ((ss s0 = -1 ∧ r = -4611686018427387915) ∨ (ss s0 ≠ -1 ∧ wn y 0 (nI (sz s0) - 1) = false ∧ r = -4611686018427387916) ∨ (ss s0 ≠ -1 ∧ ∃ i, i < sz s0 ∧ y = nI i ∧ r = itv (ss s0) (it (s0 * 40 + i))))))) 0 0 (fun _ => False) := by
  refine en (by decide +kernel) (by first | exact Nat.le_of_ble_eq_true rfl | decide) ?_
  intro p e s m below meth cd ls hx hb hr hml hown hts hlocks hnm hw hl
  have hl : lv_has ls 4 [(0, .ref (gad G 32)), (1, .int x), (2, .int y)] := hl
  refine lv_aload_n hx hb dX11_item_0 rfl (lv_at hl 0 rfl) ?_
  refine lv_iload_n hx hb dX11_item_1 rfl (lv_at hl 1 rfl) ?_
  refine lv_iload_n hx hb dX11_item_2 rfl (lv_at hl 2 rfl) ?_
  refine cSi (rV (As := [_, _]) ⟨hx, hb, hml, hown, hts⟩ hw (k_X11_wrongAt l o1 b1 b2 b3) (cv_X11_wrongAt hts tw_1280 rfl rfl ⟨Nat.le_of_ble_eq_true rfl, Nat.le_of_ble_eq_true rfl⟩) (by decide) o1 rfl rfl hl.1 rfl (by first | exact Nat.le_of_ble_eq_true rfl | decide) dX11_item_3 ⟨Nat.zero_le _, Nat.zero_le _⟩) (fun r3 hr3 => ?_)
  rcases hr3 with ⟨g1, rfl⟩ | ⟨s0, hs0, rfl, (⟨g1, rfl⟩ | ⟨g1, g2, rfl⟩ | ⟨g1, g2, rfl⟩)⟩
  · refine lv_istore_n (lv' := [(3, _), (0, _), (1, _), (2, _)]) hx hb dX11_item_6 rfl hl (by decide) rfl (fun ls hl => ?_)
    refine lv_iload_n hx hb dX11_item_7 rfl (lv_at hl 0 rfl) ?_
    refine lv_if_eq (tgt := 18) hx hb dX11_item_8 (by decide) (fun q => absurd q (by decide)) (fun c8 => ?_)
    refine lv_ldc2 (v := (-4611686018427387904)) hx hb hown (hts _ tw_1288) dX11_item_11 ?_
    refine lv_iload_n hx hb dX11_item_14 rfl (lv_at hl 0 rfl) ?_
    refine lv_i2l hx hb dX11_item_15 rfl ?_
    refine lv_ladd hx hb dX11_item_16 ?_
    exact re_SL hx hb hr hlocks dX11_item_17 (Or.inl ⟨g1, by decide⟩)
  · refine lv_istore_n (lv' := [(3, _), (0, _), (1, _), (2, _)]) hx hb dX11_item_6 rfl hl (by decide) rfl (fun ls hl => ?_)
    refine lv_iload_n hx hb dX11_item_7 rfl (lv_at hl 0 rfl) ?_
    refine lv_if_eq (tgt := 18) hx hb dX11_item_8 (by decide) (fun q => absurd q (by decide)) (fun c8 => ?_)
    refine lv_ldc2 (v := (-4611686018427387904)) hx hb hown (hts _ tw_1288) dX11_item_11 ?_
    refine lv_iload_n hx hb dX11_item_14 rfl (lv_at hl 0 rfl) ?_
    refine lv_i2l hx hb dX11_item_15 rfl ?_
    refine lv_ladd hx hb dX11_item_16 ?_
    exact re_SL hx hb hr hlocks dX11_item_17 (Or.inr ⟨s0, hs0, rfl, Or.inl ⟨g1, by decide⟩⟩)
  · refine lv_istore_n (lv' := [(3, _), (0, _), (1, _), (2, _)]) hx hb dX11_item_6 rfl hl (by decide) rfl (fun ls hl => ?_)
    refine lv_iload_n hx hb dX11_item_7 rfl (lv_at hl 0 rfl) ?_
    refine lv_if_eq (tgt := 18) hx hb dX11_item_8 (by decide) (fun q => absurd q (by decide)) (fun c8 => ?_)
    refine lv_ldc2 (v := (-4611686018427387904)) hx hb hown (hts _ tw_1288) dX11_item_11 ?_
    refine lv_iload_n hx hb dX11_item_14 rfl (lv_at hl 0 rfl) ?_
    refine lv_i2l hx hb dX11_item_15 rfl ?_
    refine lv_ladd hx hb dX11_item_16 ?_
    exact re_SL hx hb hr hlocks dX11_item_17 (Or.inr ⟨s0, hs0, rfl, Or.inr (Or.inl ⟨g1, by rw [← hsi s0 hs0]; exact g2, by decide⟩)⟩)
  · refine lv_istore_n (lv' := [(3, _), (0, _), (1, _), (2, _)]) hx hb dX11_item_6 rfl hl (by decide) rfl (fun ls hl => ?_)
    refine lv_iload_n hx hb dX11_item_7 rfl (lv_at hl 0 rfl) ?_
    refine lv_if_eq (tgt := 18) hx hb dX11_item_8 (by decide) (fun c8 => ?_) (fun q => absurd (rfl) q)
    rw [hsi s0 hs0] at g2
    obtain ⟨i, hi9, rfl⟩ := wn_ix (hz40 s0 hs0) g2
    have h40 := hz40 s0 hs0
    refine lv_aload_n hx hb dX11_item_18 rfl (lv_at hl 1 rfl) ?_
    refine w_get (C := RX11) (T := TX11) (N := 27) 18 hx hb hts inX11 hown hw (by decide) o1 rfl (by decide) (hts _ tw_903) rfl dX11_item_19 ?_
    refine lv_iload_n hx hb dX11_item_22 rfl (lv_at hl 2 rfl) ?_
    refine w_ialdN (j := s0) hx hb hw (by decide) b1 (rfl) (hs0) (by decide) dX11_item_23 ?_
    refine lv_if_ne (tgt := 49) hx hb dX11_item_24 (by decide) (fun c24 => ?_) (fun c24 => ?_)
    · refine lv_aload_n hx hb dX11_item_49 rfl (lv_at hl 1 rfl) ?_
      refine w_get (C := RX11) (T := TX11) (N := 27) 20 hx hb hts inX11 hown hw (by decide) o1 rfl (by decide) (hts _ tw_905) rfl dX11_item_50 ?_
      refine lv_bipush (v := 40) hx hb dX11_item_53 (by decide) ?_
      refine lv_iload_n hx hb dX11_item_55 rfl (lv_at hl 2 rfl) ?_
      refine lv_imul hx hb dX11_item_56 ?_
      refine lv_iload_n hx hb dX11_item_57 rfl (lv_at hl 3 rfl) ?_
      refine lv_iadd hx hb dX11_item_58 ?_
      refine w_ialdN (j := s0 * 40 + i) hx hb hw (by decide) b3 (ixm40 s0 i) (by omega) (by decide) dX11_item_59 ?_
      refine lv_i2l hx hb dX11_item_60 rfl ?_
      exact re_SL hx hb hr hlocks dX11_item_61 (Or.inr ⟨s0, hs0, rfl, Or.inr (Or.inr ⟨g1, i, hi9, rfl, by rw [itv, if_neg c24]⟩)⟩)
    · refine lv_aload_n hx hb dX11_item_27 rfl (lv_at hl 1 rfl) ?_
      refine w_get (C := RX11) (T := TX11) (N := 27) 20 hx hb hts inX11 hown hw (by decide) o1 rfl (by decide) (hts _ tw_905) rfl dX11_item_28 ?_
      refine lv_bipush (v := 40) hx hb dX11_item_31 (by decide) ?_
      refine lv_iload_n hx hb dX11_item_33 rfl (lv_at hl 2 rfl) ?_
      refine lv_imul hx hb dX11_item_34 ?_
      refine lv_iload_n hx hb dX11_item_35 rfl (lv_at hl 3 rfl) ?_
      refine lv_iadd hx hb dX11_item_36 ?_
      refine w_ialdN (j := s0 * 40 + i) hx hb hw (by decide) b3 (ixm40 s0 i) (by omega) (by decide) dX11_item_37 ?_
      refine lv_i2d hx hb dX11_item_38 ?_
      refine lv_ldc2d (v := 4611686018427387904) hx hb hown (hts _ tw_1289) dX11_item_39 ?_
      refine lv_ddiv hx hb dX11_item_42 (nan_of half_b) ?_
      refine cSl (rST (As := [_]) ⟨hx, hb, hml, hown, hts⟩ (k_Jxe99ae_doubleToLongBits_ccdee l (eq_of half_b)) (cv_Jxe99ae_doubleToLongBits_ccdee hts tw_1121 rfl rfl ⟨Nat.le_of_ble_eq_true rfl, Nat.le_of_ble_eq_true rfl⟩) rfl hl.1 rfl (by first | exact Nat.le_of_ble_eq_true rfl | decide) dX11_item_43 ⟨Nat.zero_le _, Nat.zero_le _⟩) ?_
      refine lv_goto (tgt := 61) hx hb dX11_item_46 (by decide) ?_
      exact re_SL hx hb hr hlocks dX11_item_61 (Or.inr ⟨s0, hs0, rfl, Or.inr (Or.inr ⟨g1, i, hi9, rfl, by rw [itv, if_pos c24]⟩)⟩)
