section BW3
variable {p : Program} {l : Launch} {e : Env} {R : Room} {s : State} {m : MethodId} {args : Array Value} {below : List Frame} {meth : Method} {cd : Code} {H : Heap} {locs : List Loc} {cells slots : Nat} {Q : State → Prop}
variable {cc : ByteArray} {pc : Nat} {ls : Array Slot} {rest : List Value} {G : GT} {c : Nat → va_E} {H0 : Heap}
theorem re_SV (hx : p.tables.exec = Jvm.exec) (hb : cd.code = cc) (hr : meth.sig.returnType = none) (hlocks : meth.locks = false) (hdg : decode cc pc = .ok (.return_, 1)) : W p l e R s m args below meth cd s.heap [] 0 0 (MQ below (va_Sv (fun _ => True)) args s 0 0 (fun _ => False)) (F0 m pc ls []) :=
  W.vret hx hb hr (fun _ ht _ => ⟨rfl, trivial, ht⟩) (fun q h => by cases h) hdg hlocks
theorem re_SR {post : Nat → Prop} {k : Nat} {rt : String} (hx : p.tables.exec = Jvm.exec) (hb : cd.code = cc) (hr : meth.sig.returnType = some (.object rt)) (hlocks : meth.locks = false) (hdg : decode cc pc = .ok (.areturn, 1)) (hp : post k) : W p l e R s m args below meth cd s.heap [] 0 0 (MQ below (va_Sr post (fun k => .ref (gK G k))) args s 0 0 (fun _ => False)) (F0 m pc ls [.ref (gK G k)]) :=
  W.aret hx hb hr (Or.inl ⟨_, rfl⟩) (Or.inr ⟨_, rfl⟩) (fun _ ht _ => ⟨k, rfl, hp, ht⟩) (fun q h => by cases h) hdg hlocks
theorem cSv {a : Array Value} {st0 : List Value} (hr : va_Run p l e R s m args below meth cd H locs cells slots 0 0 (F0 m pc ls st0) rest (va_Sv (fun _ => True) a) (fun _ => False)) (kk : W p l e R s m args below meth cd H locs cells slots Q (F0 m (pc + 3) ls rest)) : W p l e R s m args below meth cd H locs cells slots Q (F0 m pc ls st0) := va_csv hr.run (fun _ => kk)
theorem cSr {v : Nat} {a : Array Value} {st0 : List Value} (hr : va_Run p l e R s m args below meth cd H locs cells slots 0 0 (F0 m pc ls st0) rest (va_Sr (fun r => r = v) (fun k => .ref (gK G k)) a) (fun _ => False)) (kk : W p l e R s m args below meth cd H locs cells slots Q (F0 m (pc + 3) ls (.ref (gK G v) :: rest))) : W p l e R s m args below meth cd H locs cells slots Q (F0 m pc ls st0) := va_csr hr.run (fun r h => by subst h; exact kk)
theorem rVK {y : MethodName} {bytes : ByteArray} {maxL nL n index i : Nat} {ret : Option FieldType} {ws : List Cond} {rm : Room} {Qc : Array Value → State → Outcome → State → Prop} {free : Addr → Prop} {Ts : List Cond} {own : String} {As st : List Value}
    (S : CallFix p m cd cc nL s args Ts own) (hw : Hw G c s H) (hM : Met l y ws rm (va_Pc (.ref (gK G i) :: As) (fun U => Hw G c U U.heap)) Qc 0 0 free) (cwv : CallW R s args own "java/lang/String" index y bytes maxL ret ws rm 0 0 n) (hi : i < 17)
    (hn : As.length = n) (hsize : ls.size = nL) (hst : st = As.reverse ++ .ref (gK G i) :: rest) (hcat : (rest.map fun v => v.category).sum ≤ 8) (hdg : decode cc pc = .ok (.invokevirtual index, 3)) (hf : cells ≤ R.cells ∧ slots ≤ R.slots) :
    va_Run p l e R s m args below meth cd H locs cells slots 0 0 (F0 m pc ls st) rest (Qc (Value.ref (gK G i) :: As).toArray) free :=
  va_runV S hM cwv ⟨fb_H, (by obtain ⟨cell, h1, h2, h3, -⟩ := (hw.2.2.2.2.2.1.1 i hi).1; exact ⟨cell, h1, h2, h3⟩), fun U hU hW => ⟨rfl, hw.to hU hW⟩⟩ rfl hn hsize hst (lv_room hcat) hdg hf
end BW3
def sxc (i k : Nat) : Int32 := (sxB.getD i []).getD k 0
theorem sx_ok : ∀ i, i < 17 → sxN.getD i 0 ≤ 8 ∧ 2 ≤ sxN.getD i 0 ∧ ∀ k, k < sxN.getD i 0 → ((sxc i k &&& 255).toUInt32 % 65536).toInt32 = sxc i k ∧ narrow .char (.int (sxc i k)) = .int (sxc i k) := by decide +kernel
/-- a word stands between two places -/
def hsB (tf : Nat → Int32) (a e i : Nat) : Bool := decide (e - a = sxN.getD i 0) && allU (fun k => decide (tf (a + k) = sxc i k)) (sxN.getD i 0)
theorem z0and (x : Int32) : x >>> ((0 : Int32) &&& 31) = x := sb_shr0 x
theorem cv_J0_length_8abf5 {R : Room} {s : State} {args : Array Value} {own : String} {idx : Nat} {rm : Room} (hts : ∀ w ∈ WT, w.before args s = true) (h1 : Cond.methodLink own idx yJ0_length_8abf5 ∈ WT) (hrc : rm.cells = 0) (hrs : rm.slots = 0) (hR : rm.frames + 1 ≤ R.frames ∧ 8 + (1 + 11) + rm.locals ≤ R.locals) : CallW R s args own RJ0 idx yJ0_length_8abf5 cJ0_length_8abf5 1 (some .int) (wv yJ0_length_8abf5 cJ0_length_8abf5 1 (some .int)) rm 0 0 0 := cwV 0 hts (gdV h1 tw_655 tw_656 tw_18 tw_657) rfl hrc hrs (by decide +kernel) hR
theorem cv_J0_charAt_5068e {R : Room} {s : State} {args : Array Value} {own : String} {idx : Nat} {rm : Room} (hts : ∀ w ∈ WT, w.before args s = true) (h1 : Cond.methodLink own idx yJ0_charAt_5068e ∈ WT) (hrc : rm.cells = 0) (hrs : rm.slots = 0) (hR : rm.frames + 1 ≤ R.frames ∧ 8 + (2 + 11) + rm.locals ≤ R.locals) : CallW R s args own RJ0 idx yJ0_charAt_5068e cJ0_charAt_5068e 2 (some .char) (wv yJ0_charAt_5068e cJ0_charAt_5068e 2 (some .char)) rm 0 0 1 := cwV 1 hts (gdV h1 tw_665 tw_666 tw_18 tw_667) rfl hrc hrs (by decide +kernel) hR
theorem cv_J0_coder_7d493 {R : Room} {s : State} {args : Array Value} {own : String} {idx : Nat} {rm : Room} (hts : ∀ w ∈ WT, w.before args s = true) (h1 : Cond.methodLink own idx yJ0_coder_7d493 ∈ WT) (hrc : rm.cells = 0) (hrs : rm.slots = 0) (hR : rm.frames + 1 ≤ R.frames ∧ 8 + (1 + 11) + rm.locals ≤ R.locals) : CallW R s args own RJ0 idx yJ0_coder_7d493 cJ0_coder_7d493 1 (some .byte) (wv yJ0_coder_7d493 cJ0_coder_7d493 1 (some .byte)) rm 0 0 0 := cwV 0 hts (gdV h1 tw_659 tw_660 tw_18 tw_661) rfl hrc hrs (by decide +kernel) hR
theorem cv_J0_isLatin1_aae02 {R : Room} {s : State} {args : Array Value} {own : String} {idx : Nat} {rm : Room} (hts : ∀ w ∈ WT, w.before args s = true) (h1 : Cond.methodLink own idx yJ0_isLatin1_aae02 ∈ WT) (hrc : rm.cells = 0) (hrs : rm.slots = 0) (hR : rm.frames + 1 ≤ R.frames ∧ 8 + (1 + 11) + rm.locals ≤ R.locals) : CallW R s args own RJ0 idx yJ0_isLatin1_aae02 cJ0_isLatin1_aae02 1 (some .boolean) (wv yJ0_isLatin1_aae02 cJ0_isLatin1_aae02 1 (some .boolean)) rm 0 0 0 := cwV 0 hts (gdV h1 tw_669 tw_670 tw_18 tw_671) rfl hrc hrs (by decide +kernel) hR
theorem cv_J0_checkIndex_df160 {R : Room} {s : State} {args : Array Value} {own : String} {idx : Nat} {rm : Room} (hts : ∀ w ∈ WT, w.before args s = true) (h1 : Cond.methodLink own idx yJ0_checkIndex_df160 ∈ WT) (hrc : rm.cells = 0) (hrs : rm.slots = 0) (hR : rm.frames + 1 ≤ R.frames ∧ 8 + (2 + 11) + rm.locals ≤ R.locals) : CallB R s args own idx yJ0_checkIndex_df160 cJ0_checkIndex_df160 2 none (wv yJ0_checkIndex_df160 cJ0_checkIndex_df160 2 none) rm 0 0 2 ∧ (Cond.static yJ0_checkIndex_df160).before args s = true := va_cwS 2 hts (gdS h1 tw_676 tw_18 tw_677) rfl hrc hrs (by decide +kernel) hR
theorem cv_J1_charAt_3b067 {R : Room} {s : State} {args : Array Value} {own : String} {idx : Nat} {rm : Room} (hts : ∀ w ∈ WT, w.before args s = true) (h1 : Cond.methodLink own idx yJ1_charAt_3b067 ∈ WT) (hrc : rm.cells = 0) (hrs : rm.slots = 0) (hR : rm.frames + 1 ≤ R.frames ∧ 8 + (2 + 11) + rm.locals ≤ R.locals) : CallB R s args own idx yJ1_charAt_3b067 cJ1_charAt_3b067 2 (some .char) (wv yJ1_charAt_3b067 cJ1_charAt_3b067 2 (some .char)) rm 0 0 2 ∧ (Cond.static yJ1_charAt_3b067).before args s = true := va_cwS 2 hts (gdS h1 tw_673 tw_19 tw_674) rfl hrc hrs (by decide +kernel) hR
theorem cv_J3_checkIndex_8e157 {R : Room} {s : State} {args : Array Value} {own : String} {idx : Nat} {rm : Room} (hts : ∀ w ∈ WT, w.before args s = true) (h1 : Cond.methodLink own idx yJ3_checkIndex_8e157 ∈ WT) (hrc : rm.cells = 0) (hrs : rm.slots = 0) (hR : rm.frames + 1 ≤ R.frames ∧ 8 + (3 + 11) + rm.locals ≤ R.locals) : CallB R s args own idx yJ3_checkIndex_8e157 cJ3_checkIndex_8e157 3 (some .int) (wv yJ3_checkIndex_8e157 cJ3_checkIndex_8e157 3 (some .int)) rm 0 0 3 ∧ (Cond.static yJ3_checkIndex_8e157).before args s = true := va_cwS 3 hts (gdS h1 tw_681 tw_20 tw_682) rfl hrc hrs (by decide +kernel) hR

set_option maxHeartbeats 4000000 in
set_option maxRecDepth 100000 in
theorem k_J0_coder_7d493 (l : Launch) {G : GT} {c : Nat → va_E} {i : Nat} (hi : i < 17) : Met l yJ0_coder_7d493 (wv yJ0_coder_7d493 cJ0_coder_7d493 1 (some .byte)) ({ frames := 0, cells := 0, slots := 0, locals := 0 } : Room) (va_Pc [.ref (gK G i)] (fun U => Hw G c U U.heap)) (vp_Si (fun r => r = 0)) 0 0 (fun _ => False) := by
  refine en (by decide +kernel) (by first | exact Nat.le_of_ble_eq_true rfl | decide) ?_
  intro p e s m below meth cd ls hx hb hr hml hown hts hlocks hnm hw hl
  have hl : lv_has ls 1 [(0, .ref (gK G i))] := hl
  refine va_gets hx hb hw.2.2.2.2.2.2.1 va_S.rf hown (hts _ tw_662) (fun _ h => h) dJ0_coder_7d493_0 ?_
  refine lv_if_eq (tgt := 13) hx hb dJ0_coder_7d493_3 (by decide) (fun q => absurd q (by decide)) (fun c3 => ?_)
  refine lv_aload_n hx hb dJ0_coder_7d493_6 rfl (lv_at hl 0 rfl) ?_
  refine vk_getf hx hb (hw.2.2.2.2.2.1.1 i hi).2.1 va_S.rf hown (hts _ tw_1314) (fun _ h => h) dJ0_coder_7d493_7 ?_
  refine lv_goto (tgt := 14) hx hb dJ0_coder_7d493_10 (by decide) ?_
  exact re_S hx hb hr hlocks (rfl) dJ0_coder_7d493_14 (rfl)
set_option maxHeartbeats 4000000 in
set_option maxRecDepth 100000 in
theorem k_J0_isLatin1_aae02 (l : Launch) {G : GT} {c : Nat → va_E} {i : Nat} (hi : i < 17) : Met l yJ0_isLatin1_aae02 (wv yJ0_isLatin1_aae02 cJ0_isLatin1_aae02 1 (some .boolean)) ({ frames := 0, cells := 0, slots := 0, locals := 0 } : Room) (va_Pc [.ref (gK G i)] (fun U => Hw G c U U.heap)) (vp_Si (fun r => r = bi true)) 0 0 (fun _ => False) := by
  refine en (by decide +kernel) (by first | exact Nat.le_of_ble_eq_true rfl | decide) ?_
  intro p e s m below meth cd ls hx hb hr hml hown hts hlocks hnm hw hl
  have hl : lv_has ls 1 [(0, .ref (gK G i))] := hl
  refine va_gets hx hb hw.2.2.2.2.2.2.1 va_S.rf hown (hts _ tw_662) (fun _ h => h) dJ0_isLatin1_aae02_0 ?_
  refine lv_if_eq (tgt := 17) hx hb dJ0_isLatin1_aae02_3 (by decide) (fun q => absurd q (by decide)) (fun c3 => ?_)
  refine lv_aload_n hx hb dJ0_isLatin1_aae02_6 rfl (lv_at hl 0 rfl) ?_
  refine vk_getf hx hb (hw.2.2.2.2.2.1.1 i hi).2.1 va_S.rf hown (hts _ tw_1314) (fun _ h => h) dJ0_isLatin1_aae02_7 ?_
  refine lv_if_ne (tgt := 17) hx hb dJ0_isLatin1_aae02_10 (by decide) (fun q => absurd (rfl) q) (fun c10 => ?_)
  refine lv_iconst (v := 1) hx hb dJ0_isLatin1_aae02_13 (by decide) ?_
  refine lv_goto (tgt := 18) hx hb dJ0_isLatin1_aae02_14 (by decide) ?_
  exact re_S hx hb hr hlocks (rfl) dJ0_isLatin1_aae02_18 (rfl)
set_option maxHeartbeats 4000000 in
set_option maxRecDepth 100000 in
theorem k_J0_length_8abf5 (l : Launch) {G : GT} {c : Nat → va_E} {i : Nat} (hi : i < 17) : Met l yJ0_length_8abf5 (wv yJ0_length_8abf5 cJ0_length_8abf5 1 (some .int)) ({ frames := 1, cells := 0, slots := 0, locals := 20 } : Room) (va_Pc [.ref (gK G i)] (fun U => Hw G c U U.heap)) (vp_Si (fun r => r = nI (sxN.getD i 0))) 0 0 (fun _ => False) := by
  refine en (by decide +kernel) (by first | exact Nat.le_of_ble_eq_true rfl | decide) ?_
  intro p e s m below meth cd ls hx hb hr hml hown hts hlocks hnm hw hl
  have hl : lv_has ls 1 [(0, .ref (gK G i))] := hl
  refine lv_aload_n hx hb dJ0_length_8abf5_0 rfl (lv_at hl 0 rfl) ?_
  refine vk_getf hx hb (hw.2.2.2.2.2.1.1 i hi).2.2.1 va_S.rf hown (hts _ tw_1313) (fun _ h => h) dJ0_length_8abf5_1 ?_
  refine va_tlen (v := nI (sxN.getD i 0)) hx hb (hw.2.2.2.2.2.1.1 i hi).2.2.2 va_S.rf rfl dJ0_length_8abf5_4 ?_
  refine lv_aload_n hx hb dJ0_length_8abf5_5 rfl (lv_at hl 0 rfl) ?_
  refine cSe (rVK (i := i) (As := []) ⟨hx, hb, hml, hown, hts⟩ hw (k_J0_coder_7d493 l hi) (cv_J0_coder_7d493 hts tw_658 rfl rfl ⟨Nat.le_of_ble_eq_true rfl, Nat.le_of_ble_eq_true rfl⟩) (hi) rfl hl.1 rfl (by first | exact Nat.le_of_ble_eq_true rfl | decide) dJ0_length_8abf5_6 ⟨Nat.zero_le _, Nat.zero_le _⟩) ?_
  refine lv_ishr hx hb dJ0_length_8abf5_9 ?_
  exact re_S hx hb hr hlocks (rfl) dJ0_length_8abf5_10 (z0and _)
set_option maxHeartbeats 4000000 in
set_option maxRecDepth 100000 in
theorem k_J3_checkIndex_n (l : Launch) {k L : Nat} (hk : k < L) (hL : L < 2 ^ 31) : Met l yJ3_checkIndex_8e157 (wv yJ3_checkIndex_8e157 cJ3_checkIndex_8e157 3 (some .int)) ({ frames := 0, cells := 0, slots := 0, locals := 0 } : Room) (va_Pc [.int (nI k), .int (nI L), .null] (fun _ => True)) (vp_Si (fun r => r = nI k)) 0 0 (fun _ => False) := by
  refine en (by decide +kernel) (by first | exact Nat.le_of_ble_eq_true rfl | decide) ?_
  intro p e s m below meth cd ls hx hb hr hml hown hts hlocks hnm hw hl
  have hl : lv_has ls 3 [(0, .int (nI k)), (1, .int (nI L)), (2, .null)] := hl
  refine lv_iload_n hx hb dJ3_checkIndex_8e157_0 rfl (lv_at hl 0 rfl) ?_
  refine lv_if_lt (tgt := 9) hx hb dJ3_checkIndex_8e157_1 (by decide) (fun q => absurd q (nI_pos (by omega))) (fun c1 => ?_)
  refine lv_iload_n hx hb dJ3_checkIndex_8e157_4 rfl (lv_at hl 0 rfl) ?_
  refine lv_iload_n hx hb dJ3_checkIndex_8e157_5 rfl (lv_at hl 1 rfl) ?_
  refine lv_icmp_lt (tgt := 16) hx hb dJ3_checkIndex_8e157_6 (by decide) (fun c6 => ?_) (fun q => absurd (nI_lt hk hL) q)
  refine lv_iload_n hx hb dJ3_checkIndex_8e157_16 rfl (lv_at hl 0 rfl) ?_
  exact re_S hx hb hr hlocks (rfl) dJ3_checkIndex_8e157_17 (rfl)
set_option maxHeartbeats 4000000 in
set_option maxRecDepth 100000 in
theorem k_J3_checkIndex_r (l : Launch) {k L : Nat} {q9 : Nat} (hk : k < L) (hL : L < 2 ^ 31) : Met l yJ3_checkIndex_8e157 (wv yJ3_checkIndex_8e157 cJ3_checkIndex_8e157 3 (some .int)) ({ frames := 0, cells := 0, slots := 0, locals := 0 } : Room) (va_Pc [.int (nI k), .int (nI L), .ref q9] (fun _ => True)) (vp_Si (fun r => r = nI k)) 0 0 (fun _ => False) := by
  refine en (by decide +kernel) (by first | exact Nat.le_of_ble_eq_true rfl | decide) ?_
  intro p e s m below meth cd ls hx hb hr hml hown hts hlocks hnm hw hl
  have hl : lv_has ls 3 [(0, .int (nI k)), (1, .int (nI L)), (2, .ref q9)] := hl
  refine lv_iload_n hx hb dJ3_checkIndex_8e157_0 rfl (lv_at hl 0 rfl) ?_
  refine lv_if_lt (tgt := 9) hx hb dJ3_checkIndex_8e157_1 (by decide) (fun q => absurd q (nI_pos (by omega))) (fun c1 => ?_)
  refine lv_iload_n hx hb dJ3_checkIndex_8e157_4 rfl (lv_at hl 0 rfl) ?_
  refine lv_iload_n hx hb dJ3_checkIndex_8e157_5 rfl (lv_at hl 1 rfl) ?_
  refine lv_icmp_lt (tgt := 16) hx hb dJ3_checkIndex_8e157_6 (by decide) (fun c6 => ?_) (fun q => absurd (nI_lt hk hL) q)
  refine lv_iload_n hx hb dJ3_checkIndex_8e157_16 rfl (lv_at hl 0 rfl) ?_
  exact re_S hx hb hr hlocks (rfl) dJ3_checkIndex_8e157_17 (rfl)
set_option maxHeartbeats 4000000 in
set_option maxRecDepth 100000 in
theorem k_J0_checkIndex_df160 (l : Launch) {G : GT} {c : Nat → va_E} {k L : Nat} (hk : k < L) (hL : L < 2 ^ 31) : Met l yJ0_checkIndex_df160 (wv yJ0_checkIndex_df160 cJ0_checkIndex_df160 2 none) ({ frames := 1, cells := 0, slots := 0, locals := 22 } : Room) (va_Pc [.int (nI k), .int (nI L)] (fun U => Hw G c U U.heap)) (va_Sv (fun _ => True)) 0 0 (fun _ => False) := by
  refine en (by decide +kernel) (by first | exact Nat.le_of_ble_eq_true rfl | decide) ?_
  intro p e s m below meth cd ls hx hb hr hml hown hts hlocks hnm hw hl
  have hl : lv_has ls 2 [(0, .int (nI k)), (1, .int (nI L))] := hl
  refine lv_iload_n hx hb dJ0_checkIndex_df160_0 rfl (lv_at hl 0 rfl) ?_
  refine lv_iload_n hx hb dJ0_checkIndex_df160_1 rfl (lv_at hl 1 rfl) ?_
  rcases hw.2.2.2.2.2.2.2 with hq9 | ⟨q9, hq9⟩
  · refine va_gets hx hb hq9 va_S.rf hown (hts _ tw_678) (fun _ h => h) dJ0_checkIndex_df160_2 ?_
    refine cSe (rST (As := [_, _, _]) ⟨hx, hb, hml, hown, hts⟩ (k_J3_checkIndex_n l hk hL) (cv_J3_checkIndex_8e157 hts tw_680 rfl rfl ⟨Nat.le_of_ble_eq_true rfl, Nat.le_of_ble_eq_true rfl⟩) rfl hl.1 rfl (by first | exact Nat.le_of_ble_eq_true rfl | decide) dJ0_checkIndex_df160_5 ⟨Nat.zero_le _, Nat.zero_le _⟩) ?_
    refine lv_pop hx hb dJ0_checkIndex_df160_8 rfl ?_
    exact re_SV hx hb hr hlocks dJ0_checkIndex_df160_9
  · refine va_gets hx hb hq9 va_S.rf hown (hts _ tw_678) (fun _ h => h) dJ0_checkIndex_df160_2 ?_
    refine cSe (rST (As := [_, _, _]) ⟨hx, hb, hml, hown, hts⟩ (k_J3_checkIndex_r l hk hL) (cv_J3_checkIndex_8e157 hts tw_680 rfl rfl ⟨Nat.le_of_ble_eq_true rfl, Nat.le_of_ble_eq_true rfl⟩) rfl hl.1 rfl (by first | exact Nat.le_of_ble_eq_true rfl | decide) dJ0_checkIndex_df160_5 ⟨Nat.zero_le _, Nat.zero_le _⟩) ?_
    refine lv_pop hx hb dJ0_checkIndex_df160_8 rfl ?_
    exact re_SV hx hb hr hlocks dJ0_checkIndex_df160_9
set_option maxHeartbeats 4000000 in
set_option maxRecDepth 100000 in
theorem k_J1_charAt_3b067 (l : Launch) {G : GT} {c : Nat → va_E} {i : Nat} (hi : i < 17) {k : Nat} (hk : k < sxN.getD i 0) : Met l yJ1_charAt_3b067 (wv yJ1_charAt_3b067 cJ1_charAt_3b067 2 (some .char)) ({ frames := 2, cells := 0, slots := 0, locals := 43 } : Room) (va_Pc [.ref (gV G i), .int (nI k)] (fun U => Hw G c U U.heap)) (vp_Si (fun r => r = sxc i k)) 0 0 (fun _ => False) := by
  refine en (by decide +kernel) (by first | exact Nat.le_of_ble_eq_true rfl | decide) ?_
  intro p e s m below meth cd ls hx hb hr hml hown hts hlocks hnm hw hl
  have hl : lv_has ls 2 [(0, .ref (gV G i)), (1, .int (nI k))] := hl
  have hok := sx_ok i hi
  have hl8 := hok.1
  refine lv_iload_n hx hb dJ1_charAt_3b067_0 rfl (lv_at hl 1 rfl) ?_
  refine lv_aload_n hx hb dJ1_charAt_3b067_1 rfl (lv_at hl 0 rfl) ?_
  refine va_tlen (v := nI (sxN.getD i 0)) hx hb (hw.2.2.2.2.2.1.1 i hi).2.2.2 va_S.rf rfl dJ1_charAt_3b067_2 ?_
  refine cSv (rS (As := [_, _]) ⟨hx, hb, hml, hown, hts⟩ hw (k_J0_checkIndex_df160 l hk (by omega)) (cv_J0_checkIndex_df160 hts tw_675 rfl rfl ⟨Nat.le_of_ble_eq_true rfl, Nat.le_of_ble_eq_true rfl⟩) rfl hl.1 rfl (by first | exact Nat.le_of_ble_eq_true rfl | decide) dJ1_charAt_3b067_3 ⟨Nat.zero_le _, Nat.zero_le _⟩) ?_
  refine lv_aload_n hx hb dJ1_charAt_3b067_6 rfl (lv_at hl 0 rfl) ?_
  refine lv_iload_n hx hb dJ1_charAt_3b067_7 rfl (lv_at hl 1 rfl) ?_
  refine va_tb (v := .int (sxc i k)) hx hb (hw.2.2.2.2.2.1.1 i hi).2.2.2 va_S.rf (vp_in_nI hk (by omega)) (by rw [nI_clamp (by omega)]; rfl) dJ1_charAt_3b067_8 ?_
  refine lv_sipush (v := 255) hx hb dJ1_charAt_3b067_9 (by decide) ?_
  refine lv_iand hx hb dJ1_charAt_3b067_12 ?_
  refine lv_i2c (v := sxc i k) hx hb dJ1_charAt_3b067_13 (hok.2.2 k hk).1 ?_
  exact re_S hx hb hr hlocks ((hok.2.2 k hk).2) dJ1_charAt_3b067_14 (rfl)
set_option maxHeartbeats 4000000 in
set_option maxRecDepth 100000 in
theorem k_J0_charAt_5068e (l : Launch) {G : GT} {c : Nat → va_E} {i : Nat} (hi : i < 17) {k : Nat} (hk : k < sxN.getD i 0) : Met l yJ0_charAt_5068e (wv yJ0_charAt_5068e cJ0_charAt_5068e 2 (some .char)) ({ frames := 3, cells := 0, slots := 0, locals := 64 } : Room) (va_Pc [.ref (gK G i), .int (nI k)] (fun U => Hw G c U U.heap)) (vp_Si (fun r => r = sxc i k)) 0 0 (fun _ => False) := by
  refine en (by decide +kernel) (by first | exact Nat.le_of_ble_eq_true rfl | decide) ?_
  intro p e s m below meth cd ls hx hb hr hml hown hts hlocks hnm hw hl
  have hl : lv_has ls 2 [(0, .ref (gK G i)), (1, .int (nI k))] := hl
  have hok := sx_ok i hi
  refine lv_aload_n hx hb dJ0_charAt_5068e_0 rfl (lv_at hl 0 rfl) ?_
  refine cSe (rVK (i := i) (As := []) ⟨hx, hb, hml, hown, hts⟩ hw (k_J0_isLatin1_aae02 l hi) (cv_J0_isLatin1_aae02 hts tw_668 rfl rfl ⟨Nat.le_of_ble_eq_true rfl, Nat.le_of_ble_eq_true rfl⟩) (hi) rfl hl.1 rfl (by first | exact Nat.le_of_ble_eq_true rfl | decide) dJ0_charAt_5068e_1 ⟨Nat.zero_le _, Nat.zero_le _⟩) ?_
  refine zb_eq (tgt := 16) hx hb dJ0_charAt_5068e_4 (by decide) (fun q => Bool.noConfusion ((rfl).symm.trans q)) (fun c4 => ?_)
  refine lv_aload_n hx hb dJ0_charAt_5068e_7 rfl (lv_at hl 0 rfl) ?_
  refine vk_getf hx hb (hw.2.2.2.2.2.1.1 i hi).2.2.1 va_S.rf hown (hts _ tw_1313) (fun _ h => h) dJ0_charAt_5068e_8 ?_
  refine lv_iload_n hx hb dJ0_charAt_5068e_11 rfl (lv_at hl 1 rfl) ?_
  refine cSe (rS (As := [_, _]) ⟨hx, hb, hml, hown, hts⟩ hw (k_J1_charAt_3b067 l hi hk) (cv_J1_charAt_3b067 hts tw_672 rfl rfl ⟨Nat.le_of_ble_eq_true rfl, Nat.le_of_ble_eq_true rfl⟩) rfl hl.1 rfl (by first | exact Nat.le_of_ble_eq_true rfl | decide) dJ0_charAt_5068e_12 ⟨Nat.zero_le _, Nat.zero_le _⟩) ?_
  exact re_S hx hb hr hlocks ((hok.2.2 k hk).2) dJ0_charAt_5068e_15 (rfl)
set_option maxHeartbeats 4000000 in
set_option maxRecDepth 100000 in
theorem k_X8_spelled (l : Launch) {G : GT} {c : Nat → va_E} {w : Nat} (hw9 : w < 17) : Met l yX8_spelled (wv yX8_spelled cX8_spelled 1 (some (.object "java/lang/String"))) ({ frames := 0, cells := 0, slots := 0, locals := 0 } : Room) (va_Pc [.int (nI w)] (fun U => Hw G c U U.heap)) (va_Sr (fun r => r = w) (fun k => .ref (gK G k))) 0 0 (fun _ => False) := by
  refine en (by decide +kernel) (Nat.le_of_ble_eq_true rfl) ?_
  intro p e s m below meth cd ls hx hb hr hml hown hts hlocks hnm hw hl
  have hl : lv_has ls 1 [(0, .int (nI w))] := hl
  refine lv_iload_n hx hb dX8_spelled_0 rfl (lv_at hl 0 rfl) ?_
  have hz : w = 0 ∨ w = 1 ∨ w = 2 ∨ w = 3 ∨ w = 4 ∨ w = 5 ∨ w = 6 ∨ w = 7 ∨ w = 8 ∨ w = 9 ∨ w = 10 ∨ w = 11 ∨ w = 12 ∨ w = 13 ∨ w = 14 ∨ w = 15 ∨ w = 16 := by omega
  rcases hz with rfl | rfl | rfl | rfl | rfl | rfl | rfl | rfl | rfl | rfl | rfl | rfl | rfl | rfl | rfl | rfl | rfl
  · refine lv_tableIn (off := 79) (tgt := 80) hx hb dX8_spelled_1 (by decide) (by decide) (by rfl) (by decide) ?_
    refine va_ldcS hx hb hown (hw.2.2.2.2.1 0 (by decide)).1 dX8_spelled_80 ?_
    exact re_SR hx hb hr hlocks dX8_spelled_82 rfl
  · refine lv_tableIn (off := 82) (tgt := 83) hx hb dX8_spelled_1 (by decide) (by decide) (by rfl) (by decide) ?_
    refine va_ldcS hx hb hown (hw.2.2.2.2.1 1 (by decide)).1 dX8_spelled_83 ?_
    exact re_SR hx hb hr hlocks dX8_spelled_85 rfl
  · refine lv_tableIn (off := 85) (tgt := 86) hx hb dX8_spelled_1 (by decide) (by decide) (by rfl) (by decide) ?_
    refine va_ldcS hx hb hown (hw.2.2.2.2.1 2 (by decide)).1 dX8_spelled_86 ?_
    exact re_SR hx hb hr hlocks dX8_spelled_88 rfl
  · refine lv_tableIn (off := 88) (tgt := 89) hx hb dX8_spelled_1 (by decide) (by decide) (by rfl) (by decide) ?_
    refine va_ldcS hx hb hown (hw.2.2.2.2.1 3 (by decide)).1 dX8_spelled_89 ?_
    exact re_SR hx hb hr hlocks dX8_spelled_91 rfl
  · refine lv_tableIn (off := 91) (tgt := 92) hx hb dX8_spelled_1 (by decide) (by decide) (by rfl) (by decide) ?_
    refine va_ldcS hx hb hown (hw.2.2.2.2.1 4 (by decide)).1 dX8_spelled_92 ?_
    exact re_SR hx hb hr hlocks dX8_spelled_94 rfl
  · refine lv_tableIn (off := 94) (tgt := 95) hx hb dX8_spelled_1 (by decide) (by decide) (by rfl) (by decide) ?_
    refine va_ldcS hx hb hown (hw.2.2.2.2.1 5 (by decide)).1 dX8_spelled_95 ?_
    exact re_SR hx hb hr hlocks dX8_spelled_97 rfl
  · refine lv_tableIn (off := 97) (tgt := 98) hx hb dX8_spelled_1 (by decide) (by decide) (by rfl) (by decide) ?_
    refine va_ldcS hx hb hown (hw.2.2.2.2.1 6 (by decide)).1 dX8_spelled_98 ?_
    exact re_SR hx hb hr hlocks dX8_spelled_100 rfl
  · refine lv_tableIn (off := 100) (tgt := 101) hx hb dX8_spelled_1 (by decide) (by decide) (by rfl) (by decide) ?_
    refine va_ldcS hx hb hown (hw.2.2.2.2.1 7 (by decide)).1 dX8_spelled_101 ?_
    exact re_SR hx hb hr hlocks dX8_spelled_103 rfl
  · refine lv_tableIn (off := 103) (tgt := 104) hx hb dX8_spelled_1 (by decide) (by decide) (by rfl) (by decide) ?_
    refine va_ldcS hx hb hown (hw.2.2.2.2.1 8 (by decide)).1 dX8_spelled_104 ?_
    exact re_SR hx hb hr hlocks dX8_spelled_106 rfl
  · refine lv_tableIn (off := 106) (tgt := 107) hx hb dX8_spelled_1 (by decide) (by decide) (by rfl) (by decide) ?_
    refine va_ldcS hx hb hown (hw.2.2.2.2.1 9 (by decide)).1 dX8_spelled_107 ?_
    exact re_SR hx hb hr hlocks dX8_spelled_109 rfl
  · refine lv_tableIn (off := 109) (tgt := 110) hx hb dX8_spelled_1 (by decide) (by decide) (by rfl) (by decide) ?_
    refine va_ldcS hx hb hown (hw.2.2.2.2.1 10 (by decide)).1 dX8_spelled_110 ?_
    exact re_SR hx hb hr hlocks dX8_spelled_112 rfl
  · refine lv_tableIn (off := 112) (tgt := 113) hx hb dX8_spelled_1 (by decide) (by decide) (by rfl) (by decide) ?_
    refine va_ldcS hx hb hown (hw.2.2.2.2.1 11 (by decide)).1 dX8_spelled_113 ?_
    exact re_SR hx hb hr hlocks dX8_spelled_115 rfl
  · refine lv_tableIn (off := 115) (tgt := 116) hx hb dX8_spelled_1 (by decide) (by decide) (by rfl) (by decide) ?_
    refine va_ldcS hx hb hown (hw.2.2.2.2.1 12 (by decide)).1 dX8_spelled_116 ?_
    exact re_SR hx hb hr hlocks dX8_spelled_118 rfl
  · refine lv_tableIn (off := 118) (tgt := 119) hx hb dX8_spelled_1 (by decide) (by decide) (by rfl) (by decide) ?_
    refine va_ldcS hx hb hown (hw.2.2.2.2.1 13 (by decide)).1 dX8_spelled_119 ?_
    exact re_SR hx hb hr hlocks dX8_spelled_121 rfl
  · refine lv_tableIn (off := 121) (tgt := 122) hx hb dX8_spelled_1 (by decide) (by decide) (by rfl) (by decide) ?_
    refine va_ldcS hx hb hown (hw.2.2.2.2.1 14 (by decide)).1 dX8_spelled_122 ?_
    exact re_SR hx hb hr hlocks dX8_spelled_124 rfl
  · refine lv_tableIn (off := 124) (tgt := 125) hx hb dX8_spelled_1 (by decide) (by decide) (by rfl) (by decide) ?_
    refine va_ldcS hx hb hown (hw.2.2.2.2.1 15 (by decide)).1 dX8_spelled_125 ?_
    exact re_SR hx hb hr hlocks dX8_spelled_127 rfl
  · refine lv_tableOut (tgt := 128) hx hb dX8_spelled_1 (by decide) (by decide) ?_
    refine va_ldcS hx hb hown (hw.2.2.2.2.1 16 (by decide)).1 dX8_spelled_128 ?_
    exact re_SR hx hb hr hlocks dX8_spelled_130 rfl
set_option maxHeartbeats 4000000 in
set_option maxRecDepth 100000 in
theorem k_X7_hasBetween (l : Launch) {G : GT} {c : Nat → va_E} {tn : Nat} {tf : Nat → Int32} (t1 : c 9 = .inr (6, [.ref (gad G 10), .int (nI tn)])) (t2 : c 10 = .inl (gI G, 120, .inl tf)) (htn : tn ≤ 120) {x y i : Nat} (hi : i < 17) (hxy : x ≤ y) (hy : y ≤ tn) : Met l yX7_hasBetween (wv yX7_hasBetween cX7_hasBetween 5 (some .boolean)) ({ frames := 4, cells := 0, slots := 0, locals := 85 } : Room) (va_Pc [.ref (gad G 9), .int (nI x), .int (nI y), .ref (gK G i)] (fun U => Hw G c U U.heap)) (vp_Si (fun r => r = bi (hsB tf x y i))) 0 0 (fun _ => False) := by
  refine en (by decide +kernel) (by first | exact Nat.le_of_ble_eq_true rfl | decide) ?_
  intro p e s m below meth cd ls hx hb hr hml hown hts hlocks hnm hw hl
  have hl : lv_has ls 5 [(0, .ref (gad G 9)), (1, .int (nI x)), (2, .int (nI y)), (3, .ref (gK G i))] := hl
  have hok := sx_ok i hi
  have hl8 := hok.1
  refine lv_iload_n hx hb dX7_hasBetween_0 rfl (lv_at hl 2 rfl) ?_
  refine lv_iload_n hx hb dX7_hasBetween_1 rfl (lv_at hl 1 rfl) ?_
  refine lv_isub hx hb dX7_hasBetween_2 ?_
  refine tp (y := nI (y - x)) (pk_sub hxy) ?_
  refine lv_aload_n hx hb dX7_hasBetween_3 rfl (lv_at hl 3 rfl) ?_
  refine cSe (rVK (i := i) (As := []) ⟨hx, hb, hml, hown, hts⟩ hw (k_J0_length_8abf5 l hi) (cv_J0_length_8abf5 hts tw_654 rfl rfl ⟨Nat.le_of_ble_eq_true rfl, Nat.le_of_ble_eq_true rfl⟩) (hi) rfl hl.1 rfl (by first | exact Nat.le_of_ble_eq_true rfl | decide) dX7_hasBetween_4 ⟨Nat.zero_le _, Nat.zero_le _⟩) ?_
  refine lv_icmp_eq (tgt := 12) hx hb dX7_hasBetween_7 (by decide) (fun c7 => ?_) (fun c7 => ?_)
  · have hlen : y - x = sxN.getD i 0 := (nI_eq (by omega) (by omega)).mp c7
    refine lv_iconst (v := 0) hx hb dX7_hasBetween_12 (by decide) ?_
    refine lv_istore (lv' := [(4, _), (0, _), (1, _), (2, _), (3, _)]) hx hb dX7_hasBetween_13 hl (by decide) rfl (fun ls hl => ?_)
    have L15 : ∀ (N : Nat) (j : Nat), (j + N = sxN.getD i 0) → (allU (fun k => decide (tf (x + k) = sxc i k)) j = true) → ∀ ls : Array Slot, lv_has ls 5 [(4, .int (nI j)), (3, .ref (gK G i)), (2, .int (nI y)), (1, .int (nI x)), (0, .ref (gad G 9))] → W p l e ({ frames := 4, cells := 0, slots := 0, locals := 85 } : Room) s m (([.ref (gad G 9), .int (nI x), .int (nI y), .ref (gK G i)] : List Value).toArray) below meth cd s.heap [] 0 0 (MQ below (vp_Si (fun r => r = bi (hsB tf x y i))) ([.ref (gad G 9), .int (nI x), .int (nI y), .ref (gK G i)] : List Value).toArray s 0 0 (fun _ => False)) (F0 m 15 ls []) := by
      intro N
      induction N with
      | zero =>
        intro j  hN hA ls hl
        have hj8 : j = sxN.getD i 0 := by omega
        refine lv_iload hx hb dX7_hasBetween_15 (lv_at hl 0 rfl) ?_
        refine lv_aload_n hx hb dX7_hasBetween_17 rfl (lv_at hl 1 rfl) ?_
        refine cSe (rVK (i := i) (As := []) ⟨hx, hb, hml, hown, hts⟩ hw (k_J0_length_8abf5 l hi) (cv_J0_length_8abf5 hts tw_654 rfl rfl ⟨Nat.le_of_ble_eq_true rfl, Nat.le_of_ble_eq_true rfl⟩) (hi) rfl hl.1 rfl (by first | exact Nat.le_of_ble_eq_true rfl | decide) dX7_hasBetween_18 ⟨Nat.zero_le _, Nat.zero_le _⟩) ?_
        refine lv_icmp_ge (tgt := 49) hx hb dX7_hasBetween_21 (by decide) (fun c21 => ?_) (fun q => absurd (nI_le (by omega) (by omega)) q)
        refine lv_iconst (v := 1) hx hb dX7_hasBetween_49 (by decide) ?_
        exact re_S hx hb hr hlocks (rfl) dX7_hasBetween_50 (bi_tt (by rw [hsB, ← hj8, hA, decide_eq_true (hlen.trans hj8.symm)]; rfl))
      | succ N ih =>
        intro j  hN hA ls hl
        refine lv_iload hx hb dX7_hasBetween_15 (lv_at hl 0 rfl) ?_
        refine lv_aload_n hx hb dX7_hasBetween_17 rfl (lv_at hl 1 rfl) ?_
        refine cSe (rVK (i := i) (As := []) ⟨hx, hb, hml, hown, hts⟩ hw (k_J0_length_8abf5 l hi) (cv_J0_length_8abf5 hts tw_654 rfl rfl ⟨Nat.le_of_ble_eq_true rfl, Nat.le_of_ble_eq_true rfl⟩) (hi) rfl hl.1 rfl (by first | exact Nat.le_of_ble_eq_true rfl | decide) dX7_hasBetween_18 ⟨Nat.zero_le _, Nat.zero_le _⟩) ?_
        refine lv_icmp_ge (tgt := 49) hx hb dX7_hasBetween_21 (by decide) (fun q => absurd q (nI_ge (by omega) (by omega))) (fun c21 => ?_)
        refine lv_aload_n hx hb dX7_hasBetween_24 rfl (lv_at hl 4 rfl) ?_
        refine lv_iload_n hx hb dX7_hasBetween_25 rfl (lv_at hl 3 rfl) ?_
        refine lv_iload hx hb dX7_hasBetween_26 (lv_at hl 0 rfl) ?_
        refine lv_iadd hx hb dX7_hasBetween_28 ?_
        refine tp (y := nI (x + j)) (nI_add x j) ?_
        refine cSe (rV (As := [_]) ⟨hx, hb, hml, hown, hts⟩ hw (k_X7_at l t1 t2 htn (by omega)) (cv_X7_at hts tw_613 rfl rfl ⟨Nat.le_of_ble_eq_true rfl, Nat.le_of_ble_eq_true rfl⟩) (by decide) t1 rfl rfl hl.1 rfl (by first | exact Nat.le_of_ble_eq_true rfl | decide) dX7_hasBetween_29 ⟨Nat.zero_le _, Nat.zero_le _⟩) ?_
        refine tp (y := tf (x + j)) (if_pos (by omega)) ?_
        refine lv_aload_n hx hb dX7_hasBetween_32 rfl (lv_at hl 1 rfl) ?_
        refine lv_iload hx hb dX7_hasBetween_33 (lv_at hl 0 rfl) ?_
        refine cSe (rVK (i := i) (As := [_]) ⟨hx, hb, hml, hown, hts⟩ hw (k_J0_charAt_5068e l hi (by omega)) (cv_J0_charAt_5068e hts tw_664 rfl rfl ⟨Nat.le_of_ble_eq_true rfl, Nat.le_of_ble_eq_true rfl⟩) (hi) rfl hl.1 rfl (by first | exact Nat.le_of_ble_eq_true rfl | decide) dX7_hasBetween_35 ⟨Nat.zero_le _, Nat.zero_le _⟩) ?_
        refine lv_icmp_eq (tgt := 43) hx hb dX7_hasBetween_38 (by decide) (fun c38 => ?_) (fun c38 => ?_)
        · refine lv_iinc (v := nI (j + 1)) (lv' := [(4, _), (3, _), (2, _), (1, _), (0, _)]) hx hb dX7_hasBetween_43 hl (k := 0) rfl (inc1 j) (by decide) rfl (fun ls hl => ?_)
          refine lv_goto (tgt := 15) hx hb dX7_hasBetween_46 (by decide) ?_
          exact ih (j + 1) (by omega) (by rw [allU, hA]; simp [c38]) ls (lv_sub hl [0, 1, 2, 3, 4] rfl)
        · refine lv_iconst (v := 0) hx hb dX7_hasBetween_41 (by decide) ?_
          exact re_S hx hb hr hlocks (rfl) dX7_hasBetween_42 (bi_and (by rw [hsB, allU_f (i := j) (by simp [c38]) _ (by omega), Bool.and_false]))
    exact L15 (sxN.getD i 0) 0 (by omega) rfl ls (lv_sub hl [0, 4, 3, 2, 1] rfl)
  · refine lv_iconst (v := 0) hx hb dX7_hasBetween_10 (by decide) ?_
    exact re_S hx hb hr hlocks (rfl) dX7_hasBetween_11 (bi_and (by rw [hsB, decide_eq_false (fun q => c7 (by rw [q]))]; rfl))
set_option maxHeartbeats 4000000 in
set_option maxRecDepth 100000 in
theorem k_X8_wordBetween (l : Launch) {G : GT} {c : Nat → va_E} {tn : Nat} {tf : Nat → Int32} (t1 : c 9 = .inr (6, [.ref (gad G 10), .int (nI tn)])) (t2 : c 10 = .inl (gI G, 120, .inl tf)) (htn : tn ≤ 120) {x y : Nat} (hxy : x ≤ y) (hy : y ≤ tn) : Met l yX8_wordBetween (wv yX8_wordBetween cX8_wordBetween 4 (some .int)) ({ frames := 5, cells := 0, slots := 0, locals := 109 } : Room) (va_Pc [.ref (gad G 9), .int (nI x), .int (nI y)] (fun U => Hw G c U U.heap)) (vp_Si (fun r => r = fstU (hsB tf x y) 17)) 0 0 (fun _ => False) := by
  refine en (by decide +kernel) (by first | exact Nat.le_of_ble_eq_true rfl | decide) ?_
  intro p e s m below meth cd ls hx hb hr hml hown hts hlocks hnm hw hl
  have hl : lv_has ls 4 [(0, .ref (gad G 9)), (1, .int (nI x)), (2, .int (nI y))] := hl
  refine lv_iconst (v := 0) hx hb dX8_wordBetween_0 (by decide) ?_
  refine lv_istore_n (lv' := [(3, _), (0, _), (1, _), (2, _)]) hx hb dX8_wordBetween_1 rfl hl (by decide) rfl (fun ls hl => ?_)
  have L2 : ∀ (N : Nat) (i : Nat), (i + N = 17) → (∀ q, q < i → hsB tf x y q = false) → ∀ ls : Array Slot, lv_has ls 4 [(3, .int (nI i)), (2, .int (nI y)), (1, .int (nI x)), (0, .ref (gad G 9))] → W p l e ({ frames := 5, cells := 0, slots := 0, locals := 109 } : Room) s m (([.ref (gad G 9), .int (nI x), .int (nI y)] : List Value).toArray) below meth cd s.heap [] 0 0 (MQ below (vp_Si (fun r => r = fstU (hsB tf x y) 17)) ([.ref (gad G 9), .int (nI x), .int (nI y)] : List Value).toArray s 0 0 (fun _ => False)) (F0 m 2 ls []) := by
    intro N
    induction N with
    | zero =>
      intro i  hN hA ls hl
      have hin : i = 17 := by omega
      rw [hin] at hA
      refine lv_iload_n hx hb dX8_wordBetween_2 rfl (lv_at hl 0 rfl) ?_
      refine lv_bipush (v := 16) hx hb dX8_wordBetween_3 (by decide) ?_
      refine lv_icmp_gt (tgt := 29) hx hb dX8_wordBetween_5 (by decide) (fun c5 => ?_) (fun q => absurd (by rw [hin]; decide) q)
      refine lv_iconst (v := (-1)) hx hb dX8_wordBetween_29 (by decide) ?_
      exact re_S hx hb hr hlocks (rfl) dX8_wordBetween_30 ((fstU_n _ hA).symm)
    | succ N ih =>
      intro i  hN hA ls hl
      refine lv_iload_n hx hb dX8_wordBetween_2 rfl (lv_at hl 0 rfl) ?_
      refine lv_bipush (v := 16) hx hb dX8_wordBetween_3 (by decide) ?_
      refine lv_icmp_gt (tgt := 29) hx hb dX8_wordBetween_5 (by decide) (fun q => absurd q (fun q => absurd ((nI_ltI (a := 16) (by omega) (by omega)).mp q) (by omega))) (fun c5 => ?_)
      refine lv_aload_n hx hb dX8_wordBetween_8 rfl (lv_at hl 3 rfl) ?_
      refine lv_iload_n hx hb dX8_wordBetween_9 rfl (lv_at hl 2 rfl) ?_
      refine lv_iload_n hx hb dX8_wordBetween_10 rfl (lv_at hl 1 rfl) ?_
      refine lv_iload_n hx hb dX8_wordBetween_11 rfl (lv_at hl 0 rfl) ?_
      refine cSr (rS (As := [_]) ⟨hx, hb, hml, hown, hts⟩ hw (k_X8_spelled l (w := i) (by omega)) (cv_X8_spelled hts tw_630 rfl rfl ⟨Nat.le_of_ble_eq_true rfl, Nat.le_of_ble_eq_true rfl⟩) rfl hl.1 rfl (by first | exact Nat.le_of_ble_eq_true rfl | decide) dX8_wordBetween_12 ⟨Nat.zero_le _, Nat.zero_le _⟩) ?_
      refine cSe (rV (As := [_, _, _]) ⟨hx, hb, hml, hown, hts⟩ hw (k_X7_hasBetween l t1 t2 htn (i := i) (by omega) hxy hy) (cv_X7_hasBetween hts tw_650 rfl rfl ⟨Nat.le_of_ble_eq_true rfl, Nat.le_of_ble_eq_true rfl⟩) (by decide) t1 rfl rfl hl.1 rfl (by first | exact Nat.le_of_ble_eq_true rfl | decide) dX8_wordBetween_15 ⟨Nat.zero_le _, Nat.zero_le _⟩) ?_
      refine zb_eq (tgt := 23) hx hb dX8_wordBetween_18 (by decide) (fun c18 => ?_) (fun c18 => ?_)
      · refine lv_iinc (v := nI (i + 1)) (lv' := [(3, _), (2, _), (1, _), (0, _)]) hx hb dX8_wordBetween_23 hl (k := 0) rfl (inc1 i) (by decide) rfl (fun ls hl => ?_)
        refine lv_goto (tgt := 2) hx hb dX8_wordBetween_26 (by decide) ?_
        exact ih (i + 1) (by omega) (lt_s hA c18) ls (lv_sub hl [0, 1, 2, 3] rfl)
      · refine lv_iload_n hx hb dX8_wordBetween_21 rfl (lv_at hl 0 rfl) ?_
        exact re_S hx hb hr hlocks (rfl) dX8_wordBetween_22 (by rw [fstU_s (by omega) hA c18 17 (by omega)])
  exact L2 17 0 (by omega) lt_0 ls (lv_sub hl [0, 3, 2, 1] rfl)
