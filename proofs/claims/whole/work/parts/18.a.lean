/-! THE LAW'S LOOP -/
def R_law : String := "StatuteBookLaw"
def lw_P (b : Addr) (xs : List Int32) (args : Array Value) (s : State) : Prop := args = #[.ref b] ∧ s.IntsAt b xs ∧ xs.length ≤ 3072 ∧ (Jvm.Cond.and given_1 narrow_1).before args s = true
/-- what a walk over the start with the record d0 says of its end, said of the start itself -/
theorem lw_closed {s t : State} {o : Outcome} {d0 : Drawn} {L : List Loc} {k n : Nat} (hd0 : s.drawn.sameBut d0 lw_cs) (hv : ∃ v, o = .returned v) (hW : (s.setDrawn d0).WarmedH t.vm) (hs : (s.setDrawn d0).sameButNew ({ t with vm := s.vm } : State) L k n) : State.butDraws s t lw_cs (fun t1 => Framed s o t1 L k n) := by
  have h2 : t.drawn = d0 := congrArg State.drawn hs.1
  refine ⟨⟨hv, hW, State.sameButNew.setDrawn hs s.drawn⟩, ?_, by decide⟩
  rw [h2]
  exact hd0
def lw_Q (_ : Array Value) (s : State) (o : Outcome) (t : State) : Prop := o = .returned (some (.int 1)) ∧ State.butDraws s t lw_cs (fun t1 => Framed s o t1 [] 45 2483)
def lw_Z (below : List Frame) (a : Array Value) (s : State) : State → Prop := fun t => ∃ o, t.status = .running ∧ Ended t below o ∧ lw_Q a s o t
/-- the law's own end, with 1 on the stack, nothing written that was there before, its room as the claim has it; d0: the record of draws at this point (at the entry s.drawn: begin with 'refine W.base ?_' and 'have hd0 := Drawn.sameBut.refl s.drawn lw_cs') -/
theorem lw_ret {p : Program} {l : Launch} {e : Env} {s : State} {m : MethodId} {below : List Frame} {meth : Method} {c : Code} {b : Nat} {d0 : Drawn} (hd0 : s.drawn.sameBut d0 lw_cs) (hx : p.tables.exec = Jvm.exec) (hb : c.code = code) (hr : meth.sig.returnType = ret) (hlocks : meth.locks = false) {pc : Nat} {H : Heap} {ls : Array Slot} (hdg : decode code pc = .ok (.ireturn, 1)) : W p l e room_1 (s.setDrawn d0) m #[Value.ref b] below meth c H [] 45 2483 (lw_Z below #[Value.ref b] s) (F0 m pc ls [.int 1]) := by
  intro T hT X
  obtain ⟨fs, hret, hrun, hended, hW, hframe⟩ := X.leave (v := some (.int 1)) (hlocks := hlocks) (fun h => by rw [hr] at h; cases h)
  have hmeth' : T.vm.method? m = some meth := X.method'
  refine ⟨T.setFrames fs, ?_, .returned (some (.int 1)), hrun, hended, rfl, lw_closed hd0 ⟨_, rfl⟩ hW hframe⟩
  jvm_step X.here [X.here.top, hx, hb, hdg, hmeth', hr, ret, narrow_b1]
  (try refine ⟨rfl, ?_⟩); (try refine ⟨rfl, ?_⟩)
  first | (intro acts; rw [hret _ acts rfl rfl rfl]) | rw [hret _ _ rfl rfl rfl]
  exact Steps.refl _
/-- what holds at the law's entry: the machine, the code, the tables' words (any of lw_tbl by 'hts w (by decide +kernel)'), the script of L ints xs at the cell b, what the Statement gives of the start (any of its parts by flat_of_before) -/
def lw_At (p : Program) (s : State) (m : MethodId) (meth : Method) (c : Code) (b L : Nat) (xs : Nat → Int32) : Prop :=
  p.tables.exec = Jvm.exec ∧ c.code = code ∧ meth.sig.returnType = ret ∧ c.maxLocals = 4 ∧ s.vm.findClass R_law = some m.cls ∧ (∀ w ∈ lw_tbl, w.before #[Value.ref b] s = true) ∧ va_X b L xs s s.heap ∧ b < s.heap.size ∧ meth.locks = false ∧ (Jvm.Cond.and given_1 narrow_1).before #[Value.ref b] s = true
set_option maxHeartbeats 4000000 in
set_option maxRecDepth 100000 in
theorem law_loop {p : Program} {l : Launch} {e : Env} {s : State} {m : MethodId} {below : List Frame} {meth : Method} {cd : Code} {b L : Nat} {xs : Nat → Int32} {G : GT} (hx : p.tables.exec = Jvm.exec) (hb : cd.code = code) (hml : cd.maxLocals = 4) (hown : s.vm.findClass RL = some m.cls) (hts : ∀ w ∈ WT, w.before #[Value.ref b] s = true) (hX : va_X b L xs s s.heap) (hbl : b < s.heap.size) (hbA : ¬ gA G b) (hL : L ≤ 3072) (hr : meth.sig.returnType = ret) (hlocks : meth.locks = false) (hA : ∀ q, gA G q → s.heap.size ≤ q) :
    ∀ (N i : Nat), L + 1 ≤ i + N → i ≤ L + 6 → ∀ (c : Nat → va_E) (H : Heap) (locs : List Loc), JJ G c → Hw G c s H → va_S (gA G) s.heap H locs → ∀ ls : Array Slot, lv_has ls 4 [(0, .ref b), (1, .ref (gad G 0)), (2, .ref (gad G 32)), (3, .int (nI i))] → W p l e room_1 s m #[Value.ref b] below meth cd H locs 45 2483 (lw_Z below #[Value.ref b] s) (F0 m 18 ls []) := by
  intro N
  induction N with
  | zero =>
    intro i h1 h2 c H locs hJ hw hS ls hl
    refine lv_iload_n hx hb dL_18 rfl (lv_at hl 3 rfl) ?_
    refine lv_aload_n hx hb dL_19 rfl (lv_at hl 0 rfl) ?_
    refine va_slen hx hb hX hbl hbA hS dL_20 ?_
    refine lv_bipush (v := 6) hx hb dL_21 (by decide) ?_
    refine lv_isub hx hb dL_23 ?_
    refine lv_icmp_gt (tgt := 1636) hx hb dL_24 (by decide) (fun c_10 => ?_) (fun c_10 => ?_)
    · refine lv_iconst (v := 1) hx hb dL_1636 (by decide) ?_
      refine va_forget (fun q hq => hA _ (hS.2.2 q hq)) ?_
      refine W.base ?_
      exact lw_ret (Drawn.sameBut.refl s.drawn lw_cs) hx hb hr hlocks dL_1637
    · have e1 := pk_sub_toInt (a := L) (b := 6) (by omega) (by omega)
      have c_11 : ¬ nI L - nI 6 < nI i := c_10
      rw [Int32.lt_iff_toInt_lt, e1, nI_toInt (by omega)] at c_11
      exact absurd h1 (by omega)
  | succ N ih =>
    intro i h1 h2 c H locs hJ hw hS ls hl
    refine lv_iload_n hx hb dL_18 rfl (lv_at hl 3 rfl) ?_
    refine lv_aload_n hx hb dL_19 rfl (lv_at hl 0 rfl) ?_
    refine va_slen hx hb hX hbl hbA hS dL_20 ?_
    refine lv_bipush (v := 6) hx hb dL_21 (by decide) ?_
    refine lv_isub hx hb dL_23 ?_
    refine lv_icmp_gt (tgt := 1636) hx hb dL_24 (by decide) (fun c_10 => ?_) (fun c_10 => ?_)
    · refine lv_iconst (v := 1) hx hb dL_1636 (by decide) ?_
      refine va_forget (fun q hq => hA _ (hS.2.2 q hq)) ?_
      refine W.base ?_
      exact lw_ret (Drawn.sameBut.refl s.drawn lw_cs) hx hb hr hlocks dL_1637
    · have e1 := pk_sub_toInt (a := L) (b := 6) (by omega) (by omega)
      have c_11 : ¬ nI L - nI 6 < nI i := c_10
      rw [Int32.lt_iff_toInt_lt, e1, nI_toInt (by omega)] at c_11
      have hi : i + 6 ≤ L := by omega
      have K : ∀ (c1 : Nat → va_E) (H1 : Heap) (locs1 : List Loc), JJ G c1 → Hw G c1 s H1 → va_S (gA G) s.heap H1 locs1 → W p l e room_1 s m #[Value.ref b] below meth cd H1 locs1 45 2483 (lw_Z below #[Value.ref b] s) (F0 m 1630 ls []) := by
        intro c1 H1 locs1 hJ1 hw1 hS1
        refine lv_iinc (v := nI (i + 6)) (lv' := [(3, _), (0, _), (1, _), (2, _)]) hx hb dL_1630 hl (k := 3) rfl (show nI i + nI 6 = nI (i + 6) from nI_add i 6) (by decide) rfl (fun ls hl => ?_)
        refine lv_goto (tgt := 18) hx hb dL_1633 (by decide) ?_
        exact ih (i + 6) (by omega) (by omega) c1 H1 locs1 hJ1 hw1 hS1 ls (lv_sub hl [1, 2, 3, 0] rfl)
      refine lv_aload_n hx hb dL_27 rfl (lv_at hl 0 rfl) ?_
      refine lv_iload_n hx hb dL_28 rfl (lv_at hl 3 rfl) ?_
      refine va_sld hx hb hX hbl hbA hS (vp_in_nI (by omega) (by omega)) dL_29 ?_
      refine lv_bipush (v := 63) hx hb dL_30 (by decide) ?_
      refine lv_iand hx hb dL_32 ?_
      refine lv_topi (fun x9 _ => ?_)
      by_cases hs : x9.toInt < 0 ∨ 39 < x9.toInt
      · refine lv_tableOut (tgt := 1630) hx hb dL_33 hs (by decide) ?_
        exact K c H locs hJ hw hS
      · have hz : x9.toInt = 0 ∨ x9.toInt = 1 ∨ x9.toInt = 2 ∨ x9.toInt = 3 ∨ x9.toInt = 4 ∨ x9.toInt = 5 ∨ x9.toInt = 6 ∨ x9.toInt = 7 ∨ x9.toInt = 8 ∨ x9.toInt = 9 ∨ x9.toInt = 10 ∨ x9.toInt = 11 ∨ x9.toInt = 12 ∨ x9.toInt = 13 ∨ x9.toInt = 14 ∨ x9.toInt = 15 ∨ x9.toInt = 16 ∨ x9.toInt = 17 ∨ x9.toInt = 18 ∨ x9.toInt = 19 ∨ x9.toInt = 20 ∨ x9.toInt = 21 ∨ x9.toInt = 22 ∨ x9.toInt = 23 ∨ x9.toInt = 24 ∨ x9.toInt = 25 ∨ x9.toInt = 26 ∨ x9.toInt = 27 ∨ x9.toInt = 28 ∨ x9.toInt = 29 ∨ x9.toInt = 30 ∨ x9.toInt = 31 ∨ x9.toInt = 32 ∨ x9.toInt = 33 ∨ x9.toInt = 34 ∨ x9.toInt = 35 ∨ x9.toInt = 36 ∨ x9.toInt = 37 ∨ x9.toInt = 38 ∨ x9.toInt = 39 := by omega
        rcases hz with hz | hz | hz | hz | hz | hz | hz | hz | hz | hz | hz | hz | hz | hz | hz | hz | hz | hz | hz | hz | hz | hz | hz | hz | hz | hz | hz | hz | hz | hz | hz | hz | hz | hz | hz | hz | hz | hz | hz | hz
        · refine lv_tableIn (off := 175) (tgt := 208) hx hb dL_33 (by omega) (by omega) (by rw [hz]; rfl) (by decide) ?_
          exact lc_0 hx hb hml hown hts hX hbl hbA hi hL hJ hw hS hl K
        · refine lv_tableIn (off := 188) (tgt := 221) hx hb dL_33 (by omega) (by omega) (by rw [hz]; rfl) (by decide) ?_
          exact lc_1 hx hb hml hown hts hX hbl hbA hi hL hJ hw hS hl K
        · refine lv_tableIn (off := 251) (tgt := 284) hx hb dL_33 (by omega) (by omega) (by rw [hz]; rfl) (by decide) ?_
          exact lc_2 hx hb hml hown hts hX hbl hbA hi hL hJ hw hS hl K
        · refine lv_tableIn (off := 314) (tgt := 347) hx hb dL_33 (by omega) (by omega) (by rw [hz]; rfl) (by decide) ?_
          exact lc_3 hx hb hml hown hts hX hbl hbA hi hL hJ hw hS hl K
        · refine lv_tableIn (off := 357) (tgt := 390) hx hb dL_33 (by omega) (by omega) (by rw [hz]; rfl) (by decide) ?_
          exact lc_4 hx hb hml hown hts hX hbl hbA hi hL hJ hw hS hl K
        · refine lv_tableIn (off := 390) (tgt := 423) hx hb dL_33 (by omega) (by omega) (by rw [hz]; rfl) (by decide) ?_
          exact lc_5 hx hb hml hown hts hX hbl hbA hi hL hJ hw hS hl K
        · refine lv_tableIn (off := 423) (tgt := 456) hx hb dL_33 (by omega) (by omega) (by rw [hz]; rfl) (by decide) ?_
          exact lc_6 hx hb hml hown hts hX hbl hbA hi hL hJ hw hS hl K
        · refine lv_tableIn (off := 436) (tgt := 469) hx hb dL_33 (by omega) (by omega) (by rw [hz]; rfl) (by decide) ?_
          exact lc_7 hx hb hml hown hts hX hbl hbA hi hL hJ hw hS hl K
        · refine lv_tableIn (off := 499) (tgt := 532) hx hb dL_33 (by omega) (by omega) (by rw [hz]; rfl) (by decide) ?_
          exact lc_8 hx hb hml hown hts hX hbl hbA hi hL hJ hw hS hl K
        · refine lv_tableIn (off := 532) (tgt := 565) hx hb dL_33 (by omega) (by omega) (by rw [hz]; rfl) (by decide) ?_
          exact lc_9 hx hb hml hown hts hX hbl hbA hi hL hJ hw hS hl K
        · refine lv_tableIn (off := 565) (tgt := 598) hx hb dL_33 (by omega) (by omega) (by rw [hz]; rfl) (by decide) ?_
          exact lc_10 hx hb hml hown hts hX hbl hbA hi hL hJ hw hS hl K
        · refine lv_tableIn (off := 598) (tgt := 631) hx hb dL_33 (by omega) (by omega) (by rw [hz]; rfl) (by decide) ?_
          exact lc_11 hx hb hml hown hts hX hbl hbA hi hL hJ hw hS hl K
        · refine lv_tableIn (off := 651) (tgt := 684) hx hb dL_33 (by omega) (by omega) (by rw [hz]; rfl) (by decide) ?_
          exact lc_12 hx hb hml hown hts hX hbl hbA hi hL hJ hw hS hl K
        · refine lv_tableIn (off := 694) (tgt := 727) hx hb dL_33 (by omega) (by omega) (by rw [hz]; rfl) (by decide) ?_
          exact lc_13 hx hb hml hown hts hX hbl hbA hi hL hJ hw hS hl K
        · refine lv_tableIn (off := 747) (tgt := 780) hx hb dL_33 (by omega) (by omega) (by rw [hz]; rfl) (by decide) ?_
          exact lc_14 hx hb hml hown hts hX hbl hbA hi hL hJ hw hS hl K
        · refine lv_tableIn (off := 800) (tgt := 833) hx hb dL_33 (by omega) (by omega) (by rw [hz]; rfl) (by decide) ?_
          exact lc_15 hx hb hml hown hts hX hbl hbA hi hL hJ hw hS hl K
        · refine lv_tableIn (off := 853) (tgt := 886) hx hb dL_33 (by omega) (by omega) (by rw [hz]; rfl) (by decide) ?_
          exact lc_16 hx hb hml hown hts hX hbl hbA hi hL hJ hw hS hl K
        · refine lv_tableIn (off := 906) (tgt := 939) hx hb dL_33 (by omega) (by omega) (by rw [hz]; rfl) (by decide) ?_
          exact lc_17 hx hb hml hown hts hX hbl hbA hi hL hJ hw hS hl K
        · refine lv_tableIn (off := 950) (tgt := 983) hx hb dL_33 (by omega) (by omega) (by rw [hz]; rfl) (by decide) ?_
          exact lc_18 hx hb hml hown hts hX hbl hbA hi hL hJ hw hS hl K
        · refine lv_tableIn (off := 983) (tgt := 1016) hx hb dL_33 (by omega) (by omega) (by rw [hz]; rfl) (by decide) ?_
          exact lc_19 hx hb hml hown hts hX hbl hbA hi hL hJ hw hS hl K
        · refine lv_tableIn (off := 1016) (tgt := 1049) hx hb dL_33 (by omega) (by omega) (by rw [hz]; rfl) (by decide) ?_
          exact lc_20 hx hb hml hown hts hX hbl hbA hi hL hJ hw hS hl K
        · refine lv_tableIn (off := 1029) (tgt := 1062) hx hb dL_33 (by omega) (by omega) (by rw [hz]; rfl) (by decide) ?_
          exact lc_21 hx hb hml hown hts hX hbl hbA hi hL hJ hw hS hl K
        · refine lv_tableIn (off := 1062) (tgt := 1095) hx hb dL_33 (by omega) (by omega) (by rw [hz]; rfl) (by decide) ?_
          exact lc_22 hx hb hml hown hts hX hbl hbA hi hL hJ hw hS hl K
        · refine lv_tableIn (off := 1115) (tgt := 1148) hx hb dL_33 (by omega) (by omega) (by rw [hz]; rfl) (by decide) ?_
          exact lc_23 hx hb hml hown hts hX hbl hbA hi hL hJ hw hS hl K
        · refine lv_tableIn (off := 1148) (tgt := 1181) hx hb dL_33 (by omega) (by omega) (by rw [hz]; rfl) (by decide) ?_
          exact lc_24 hx hb hml hown hts hX hbl hbA hi hL hJ hw hS hl K
        · refine lv_tableIn (off := 1171) (tgt := 1204) hx hb dL_33 (by omega) (by omega) (by rw [hz]; rfl) (by decide) ?_
          exact lc_25 hx hb hml hown hts hX hbl hbA hi hL hJ hw hS hl K
        · refine lv_tableIn (off := 1204) (tgt := 1237) hx hb dL_33 (by omega) (by omega) (by rw [hz]; rfl) (by decide) ?_
          exact lc_26 hx hb hml hown hts hX hbl hbA hi hL hJ hw hS hl K
        · refine lv_tableIn (off := 1217) (tgt := 1250) hx hb dL_33 (by omega) (by omega) (by rw [hz]; rfl) (by decide) ?_
          exact lc_27 hx hb hml hown hts hX hbl hbA hi hL hJ hw hS hl K
        · refine lv_tableIn (off := 1230) (tgt := 1263) hx hb dL_33 (by omega) (by omega) (by rw [hz]; rfl) (by decide) ?_
          exact lc_28 hx hb hml hown hts hX hbl hbA hi hL hJ hw hS hl K
        · refine lv_tableIn (off := 1263) (tgt := 1296) hx hb dL_33 (by omega) (by omega) (by rw [hz]; rfl) (by decide) ?_
          exact lc_29 hx hb hml hown hts hX hbl hbA hi hL hJ hw hS hl K
        · refine lv_tableIn (off := 1276) (tgt := 1309) hx hb dL_33 (by omega) (by omega) (by rw [hz]; rfl) (by decide) ?_
          exact lc_30 hx hb hml hown hts hX hbl hbA hi hL hJ hw hS hl K
        · refine lv_tableIn (off := 1289) (tgt := 1322) hx hb dL_33 (by omega) (by omega) (by rw [hz]; rfl) (by decide) ?_
          exact lc_31 hx hb hml hown hts hX hbl hbA hi hL hJ hw hS hl K
        · refine lv_tableIn (off := 1312) (tgt := 1345) hx hb dL_33 (by omega) (by omega) (by rw [hz]; rfl) (by decide) ?_
          exact lc_32 hx hb hml hown hts hX hbl hbA hi hL hJ hw hS hl K
        · refine lv_tableIn (off := 1355) (tgt := 1388) hx hb dL_33 (by omega) (by omega) (by rw [hz]; rfl) (by decide) ?_
          exact lc_33 hx hb hml hown hts hX hbl hbA hi hL hJ hw hS hl K
        · refine lv_tableIn (off := 1398) (tgt := 1431) hx hb dL_33 (by omega) (by omega) (by rw [hz]; rfl) (by decide) ?_
          exact lc_34 hx hb hml hown hts hX hbl hbA hi hL hJ hw hS hl K
        · refine lv_tableIn (off := 1432) (tgt := 1465) hx hb dL_33 (by omega) (by omega) (by rw [hz]; rfl) (by decide) ?_
          exact lc_35 hx hb hml hown hts hX hbl hbA hi hL hJ hw hS hl K
        · refine lv_tableIn (off := 1495) (tgt := 1528) hx hb dL_33 (by omega) (by omega) (by rw [hz]; rfl) (by decide) ?_
          exact lc_36 hx hb hml hown hts hX hbl hbA hi hL hJ hw hS hl K
        · refine lv_tableIn (off := 1548) (tgt := 1581) hx hb dL_33 (by omega) (by omega) (by rw [hz]; rfl) (by decide) ?_
          exact lc_37 hx hb hml hown hts hX hbl hbA hi hL hJ hw hS hl K
        · refine lv_tableIn (off := 1561) (tgt := 1594) hx hb dL_33 (by omega) (by omega) (by rw [hz]; rfl) (by decide) ?_
          exact lc_38 hx hb hml hown hts hX hbl hbA hi hL hJ hw hS hl K
        · refine lv_tableIn (off := 1574) (tgt := 1607) hx hb dL_33 (by omega) (by omega) (by rw [hz]; rfl) (by decide) ?_
          exact lc_39 hx hb hml hown hts hX hbl hbA hi hL hJ hw hS hl K
