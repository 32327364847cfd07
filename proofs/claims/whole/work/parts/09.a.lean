/-! ROWS: copying, arrays of references -/
section BW2
variable {p : Program} {l : Launch} {e : Env} {R : Room} {s : State} {m : MethodId} {args : Array Value} {below : List Frame} {meth : Method} {cd : Code} {H : Heap} {locs : List Loc} {cells slots : Nat} {Q : State → Prop}
variable {cc : ByteArray} {pc : Nat} {ls : Array Slot} {rest : List Value} {G : GT} {c : Nat → va_E} {H0 : Heap}
theorem w_copy {own : String} {index k0 k1 n0 n1 a b q : Nat} {f g : Nat → Int32} {sp dp n : Int32} (hx : p.tables.exec = Jvm.exec) (hb : cd.code = cc) (hml : cd.maxLocals = ls.size) (hown : s.vm.findClass own = some m.cls) (hlink : (Cond.methodLink own index arraycopyName).before args s = true) (hnat : (Cond.native arraycopyName).before args s = true) (hstat : (Cond.static arraycopyName).before args s = true) (hini : (Cond.initialized "java/lang/System").before args s = true)
    (hw : Hw G c s H) (hX : Sw G s H0) (hS : va_S (gA G) H0 H locs) (hk0 : k0 < 45) (hc0 : c k0 = .inl (gI G, n0, .inl f)) (hk1 : k1 < 45) (hc1 : c k1 = .inl (gI G, n1, .inl g)) (hs : sp = nI a) (hd : dp = nI b) (hq : n = nI q) (h4 : a + q ≤ n0) (h5 : b + q ≤ n1) (hn0 : n0 < 2 ^ 31) (hn1 : n1 < 2 ^ 31)
    (hframes : 1 ≤ R.frames) (hlocals : (rest.map fun v => v.category).sum + (nativeFrameWords "java/lang/System" "arraycopy" 5 + 11) ≤ R.locals) (hdg : decode cc pc = .ok (.invokestatic index, 3))
    (kk : ∀ (H1 : Heap) (locs1 : List Loc), Hw G (va_up c k1 (.inl (gI G, n1, .inl (va_cpy f g a b q)))) s H1 → va_S (gA G) H0 H1 locs1 → W p l e R s m args below meth cd H1 locs1 cells slots Q (F0 m (pc + 3) ls rest)) : W p l e R s m args below meth cd H locs cells slots Q (F0 m pc ls (.int n :: .int dp :: .ref (gad G k1) :: .int sp :: .ref (gad G k0) :: rest)) := by
  subst hs hd hq
  have ca : (nI a).toNatClampNeg = a := nI_clamp (by omega)
  have cb : (nI b).toNatClampNeg = b := nI_clamp (by omega)
  have cq : (nI q).toNatClampNeg = q := nI_clamp (by omega)
  refine va_copyi hx hb hml hown hlink hnat hstat hini hw.2.1 hw.1 hw.2.2.1 hS k0 k1 0 0 (cw_at2 hk0 hc0) (cw_at2 hk1 hc1) (ty := .int) rfl rfl rfl (nI_pos (by omega)) (nI_pos (by omega)) (nI_pos (by omega)) (by rw [ca, cq]; exact h4) (by rw [cb, cq]; exact h5) (fun _ _ => rfl) hframes hlocals hdg (fun H1 locs1 hP hD hS1 => ?_)
  rw [ca, cb, cq, cw_set] at hP hD
  exact kk H1 locs1 ⟨hP, hw.2.1, hD, hw.2.2.2.1, hw.2.2.2.2.1, hX.kept hS1.2.1⟩ hS1
theorem w_aald {k n j v t0 : Nat} {cA : ClassId} {C : String} {f : Nat → Option Nat} {i : Int32} (hx : p.tables.exec = Jvm.exec) (hb : cd.code = cc) (hw : Hw G c s H) (hk : k < 45) (hc : c k = .inl (cA, n, .inr (.inr (.inr (.inr f))))) (ht : (tysG G)[t0]? = some (cA, .object C)) (hi : i = nI j) (hj : j < n) (hn : n < 2 ^ 31) (hv : f j = some v) (hdg : decode cc pc = .ok (.aaload, 1))
    (kk : W p l e R s m args below meth cd H locs cells slots Q (F0 m (pc + 1) ls (.ref v :: rest))) : W p l e R s m args below meth cd H locs cells slots Q (F0 m pc ls (.int i :: .ref (gad G k) :: rest)) := by
  subst hi
  refine va_aldq hx hb hw.2.1 hw.1 k t0 (cw_at2 hk hc) ht (vp_in_nI hj hn) hdg ?_
  rw [nI_clamp (Nat.lt_trans hj hn), hv]
  exact kk
end BW2
/-! DRAWS at 8, REGISTERS at 5 6 7 (kept: 29 30 31), SHEETS, TAPE at 9 10 -/
def zn (z : Int32) : Int32 := z * 1103515245 + 12345
def zq (z : Int32) : Nat := z.toBitVec.toNat / 65536
theorem zq_lt (z : Int32) : zq z < 65536 := by
  unfold zq
  have := z.toBitVec.isLt
  omega
theorem ush16 (z : Int32) : (z.toUInt32 >>> ((16 : Int32).toUInt32 &&& Int32.toUInt32 31)).toInt32 = nI (zq z) := by
  have h := pk_ushr z 16 16 (by decide)
  apply Int32.toBitVec_inj.mp
  apply BitVec.eq_of_toNat_eq
  rw [h, pk_tn (by have := zq_lt z; omega)]
  rfl
def zp (z : Int32) : Nat := zq (zn z) % 100 + 100 * (zq (zn (zn z)) % 100) + 10000 * (zq (zn (zn (zn z))) % 10) + 100000 * (zq (zn (zn (zn (zn z)))) % 8) + 800000 * (zq (zn (zn (zn (zn (zn z))))) % 32)
def zn5 (z : Int32) : Int32 := zn (zn (zn (zn (zn z))))
theorem zp_lt (z : Int32) : zp z < 25600000 := by unfold zp; omega
theorem zp_eq (a b d e h : Nat) : nI a + 100 * nI b + 10000 * nI d + 100000 * nI e + 800000 * nI h = nI (a + 100 * b + 10000 * d + 100000 * e + 800000 * h) := by
  show nI a + nI 100 * nI b + nI 10000 * nI d + nI 100000 * nI e + nI 800000 * nI h = _
  rw [pk_mul, pk_mul, pk_mul, pk_mul, nI_add, nI_add, nI_add, nI_add]
theorem up_sw {α : Type} {f : Nat → α} {a b : Nat} {x y : α} (h : a ≠ b) : va_up (va_up f a x) b y = va_up (va_up f b y) a x := by
  funext j
  unfold va_up
  by_cases h1 : j = b
  · by_cases h2 : j = a
    · exact absurd (h2.symm.trans h1) h
    · rw [if_pos h1, if_neg h2, if_pos h1]
  · by_cases h2 : j = a
    · rw [if_neg h1, if_pos h2, if_pos h2]
    · rw [if_neg h1, if_neg h2, if_neg h2, if_neg h1]
theorem upd_2 (f : Nat → Int32) (k : Nat) : upd (upd f k 0) k (upd f k 0 k + 1) = upd f k 1 := by
  funext j
  unfold upd
  by_cases h : j = k
  · rw [if_pos h, if_pos rfl, if_pos h]; rfl
  · rw [if_neg h, if_neg h, if_neg h]
def rsm (rf f : Nat → Int32) (pl a : Nat) : Bool := allU (fun i => decide (rf (pl * 8 + i) = f (a * 11 + i))) 8
def rfi (rf f : Nat → Int32) (rn a : Nat) : Int32 := fstU (fun pl => rsm rf f pl a) rn
def tat (rt : Nat → Int32) (rn : Nat) (x : Int32) : Int32 := if x < 0 then 0 else if x < nI rn then rt x.toNatClampNeg else 0
def cpF (rf f : Nat → Int32) (rn a i : Nat) : Nat → Int32 := fun q => if rn * 8 ≤ q ∧ q < rn * 8 + i then f (a * 11 + (q - rn * 8)) else rf q
theorem cpF_0 (rf f : Nat → Int32) (rn a : Nat) : cpF rf f rn a 0 = rf := by funext q; unfold cpF; rw [if_neg (by omega)]
theorem cpF_s (rf f : Nat → Int32) (rn a i : Nat) : upd (cpF rf f rn a i) (rn * 8 + i) (f (a * 11 + i)) = cpF rf f rn a (i + 1) := by
  funext q
  unfold upd cpF
  by_cases h : q = rn * 8 + i
  · rw [if_pos h, if_pos (by omega), show q - rn * 8 = i by omega]
  · rw [if_neg h]
    by_cases h2 : rn * 8 ≤ q ∧ q < rn * 8 + i
    · rw [if_pos h2, if_pos (by omega)]
    · rw [if_neg h2, if_neg (by omega)]
theorem fstU_or {P : Nat → Bool} : ∀ n, n < 2 ^ 31 → fstU P n = -1 ∨ ∃ i, i < n ∧ fstU P n = nI i
  | 0, _ => Or.inl rfl
  | n + 1, hn => by
    rw [fstU]
    rcases fstU_or (P := P) n (by omega) with h | ⟨i, hi, h⟩
    · by_cases hp : P n = true
      · right; exact ⟨n, by omega, by simp [h, hp]⟩
      · left; simp [h, hp]
    · right
      refine ⟨i, by omega, ?_⟩
      have := nI_ne_m1 (k := i) (by omega)
      simp [h, this]
def bgF (g : Nat → Int32) (i : Nat) : Nat → Int32 := fun q => if q < i then 0 else g q
theorem bgF_0 (g : Nat → Int32) : bgF g 0 = g := by funext q; simp [bgF]
theorem bgF_s (g : Nat → Int32) (i : Nat) : upd (bgF g i) i 0 = bgF g (i + 1) := by
  funext q
  unfold upd bgF
  by_cases h : q = i
  · rw [if_pos h, if_pos (by omega)]
  · rw [if_neg h]
    by_cases h2 : q < i
    · rw [if_pos h2, if_pos (by omega)]
    · rw [if_neg h2, if_neg (by omega)]
def tpa (tf : Nat → Int32) (tn x : Nat) : Int32 := if x < tn then tf x else 0
def bhd (P : Nat → Bool) : Nat → Nat → Nat
  | 0, i => i
  | N + 1, i => if P i then bhd P N (i + 1) else i
theorem bhd_le (P : Nat → Bool) : ∀ N i, i ≤ bhd P N i ∧ bhd P N i ≤ i + N
  | 0, i => ⟨Nat.le_refl _, Nat.le_refl _⟩
  | N + 1, i => by
    rw [bhd]
    have := bhd_le P N (i + 1)
    split <;> omega
def blP (tf : Nat → Int32) (i : Nat) : Bool := decide (tf i = 32)
def leP (tf : Nat → Int32) (i : Nat) : Bool := wn (tf i) 97 122
def diP (tf : Nat → Int32) (i : Nat) : Bool := wn (tf i) 48 57
def nmb (tf : Nat → Int32) (s : Nat) : Nat → Int32
  | 0 => 0
  | k + 1 => minI 1000 (10 * nmb tf s k + tf (s + k) - 48)

set_option maxHeartbeats 4000000 in
set_option maxRecDepth 100000 in
theorem k_X2_nextRest (l : Launch) {G : GT} {c : Nat → va_E} {z : Int32} (z1 : c 8 = .inr (1, [.int z])) {x : Nat} (hx1 : 1 ≤ x) (hx2 : x < 2 ^ 31) : Met l yX2_nextRest (wv yX2_nextRest cX2_nextRest 2 (some .int)) ({ frames := 0, cells := 0, slots := 0, locals := 0 } : Room) (va_Pc [.ref (gad G 8), .int (nI x)] (fun U => Hw G c U U.heap)) (va_Qi (fun r (c9 : Nat → va_E) => r = nI (zq (zn z) % x) ∧ c9 = va_up c 8 (.inr (1, [.int (zn z)]))) (fun c9 t => Hw G c9 t t.heap) (gA G)) 0 0 (gA G) := by
  refine en (by decide +kernel) (by first | exact Nat.le_of_ble_eq_true rfl | decide) ?_
  intro p e s m below meth cd ls hx hb hr hml hown hts hlocks hnm hw hl
  have hl : lv_has ls 2 [(0, .ref (gad G 8)), (1, .int (nI x))] := hl
  have hX : Sw G s s.heap := hw.2.2.2.2.2
  have hS : va_S (gA G) s.heap s.heap [] := va_S.rf
  obtain ⟨H, hH⟩ : ∃ wz9, wz9 = s.heap := ⟨_, rfl⟩
  obtain ⟨locs, hlocs⟩ : ∃ wz9 : List Loc, wz9 = [] := ⟨_, rfl⟩
  have hw : Hw G c s H := by rw [hH]; exact hw
  have hS : va_S (gA G) s.heap H locs := by rw [hH, hlocs]; exact hS
  suffices hgo : W p l e ({ frames := 0, cells := 0, slots := 0, locals := 0 } : Room) s m (([.ref (gad G 8), .int (nI x)] : List Value).toArray) below meth cd H locs 0 0 (MQ below (va_Qi (fun r (c9 : Nat → va_E) => r = nI (zq (zn z) % x) ∧ c9 = va_up c 8 (.inr (1, [.int (zn z)]))) (fun c9 t => Hw G c9 t t.heap) (gA G)) ([.ref (gad G 8), .int (nI x)] : List Value).toArray s 0 0 (gA G)) (F0 m 0 ls []) by rw [hH, hlocs] at hgo; exact hgo
  refine lv_aload_n hx hb dX2_nextRest_0 rfl (lv_at hl 0 rfl) ?_
  refine lv_aload_n hx hb dX2_nextRest_1 rfl (lv_at hl 0 rfl) ?_
  refine w_get (C := RX2) (T := TX2) (N := 1) 0 hx hb hts inX2 hown hw (by decide) z1 rfl (by decide) (hts _ tw_66) rfl dX2_nextRest_2 ?_
  refine lv_ldc (v := 1103515245) hx hb hown (hts _ tw_465) dX2_nextRest_5 ?_
  refine lv_imul hx hb dX2_nextRest_7 ?_
  refine lv_sipush (v := 12345) hx hb dX2_nextRest_8 (by decide) ?_
  refine lv_iadd hx hb dX2_nextRest_11 ?_
  refine w_put (C := RX2) (T := TX2) (N := 1) (v := .int (zn z)) 0 tyX2 hx hb hts inX2 tyX2_ok nmX2 hown hw hX hS (by decide) z1 rfl (by decide) (hts _ tw_66) rfl rfl (rfl) (rfl) (Nat.le_of_ble_eq_true rfl) dX2_nextRest_12 (fun H locs hw hS => ?_)
  obtain ⟨w2, ew2⟩ : ∃ wz9 : Nat → va_E, wz9 = va_up c 8 (.inr (1, [.int (zn z)])) := ⟨_, rfl⟩
  have hw : Hw G w2 s H := by rw [ew2]; exact hw
  have z1_2 : w2 8 = .inr (1, [.int (zn z)]) := by rw [ew2]; exact vu_s
  refine lv_iload_n hx hb dX2_nextRest_15 rfl (lv_at hl 1 rfl) ?_
  refine lv_iconst (v := 1) hx hb dX2_nextRest_16 (by decide) ?_
  refine lv_icmp_ge (tgt := 24) hx hb dX2_nextRest_17 (by decide) (fun c17 => ?_) (fun q => absurd (nI_le (a := 1) hx1 hx2) q)
  refine lv_aload_n hx hb dX2_nextRest_24 rfl (lv_at hl 0 rfl) ?_
  refine w_get (C := RX2) (T := TX2) (N := 1) 0 hx hb hts inX2 hown hw (by decide) z1_2 rfl (by decide) (hts _ tw_66) rfl dX2_nextRest_25 ?_
  refine lv_bipush (v := 16) hx hb dX2_nextRest_28 (by decide) ?_
  refine lv_iushr hx hb dX2_nextRest_30 rfl ?_
  rw [ush16]
  refine lv_iload_n hx hb dX2_nextRest_31 rfl (lv_at hl 1 rfl) ?_
  refine lv_irem hx hb dX2_nextRest_32 (nI_ne0 (by omega) hx2) ?_
  exact re_Q hx hb hr hlocks (rfl) hw hS dX2_nextRest_33 (⟨pk_rem (by have := zq_lt (zn z); omega) (by omega) hx2, ew2⟩)
set_option maxHeartbeats 4000000 in
set_option maxRecDepth 100000 in
theorem k_X2_nextProfile (l : Launch) {G : GT} {c : Nat → va_E} {z : Int32} (z1 : c 8 = .inr (1, [.int z])) : Met l yX2_nextProfile (wv yX2_nextProfile cX2_nextProfile 6 (some .int)) ({ frames := 1, cells := 0, slots := 0, locals := 24 } : Room) (va_Pc [.ref (gad G 8)] (fun U => Hw G c U U.heap)) (va_Qi (fun r (c9 : Nat → va_E) => r = nI (zp z) ∧ c9 = va_up c 8 (.inr (1, [.int (zn5 z)]))) (fun c9 t => Hw G c9 t t.heap) (gA G)) 0 0 (gA G) := by
  refine en (by decide +kernel) (by first | exact Nat.le_of_ble_eq_true rfl | decide) ?_
  intro p e s m below meth cd ls hx hb hr hml hown hts hlocks hnm hw hl
  have hl : lv_has ls 6 [(0, .ref (gad G 8))] := hl
  have hX : Sw G s s.heap := hw.2.2.2.2.2
  have hS : va_S (gA G) s.heap s.heap [] := va_S.rf
  obtain ⟨H, hH⟩ : ∃ wz9, wz9 = s.heap := ⟨_, rfl⟩
  obtain ⟨locs, hlocs⟩ : ∃ wz9 : List Loc, wz9 = [] := ⟨_, rfl⟩
  have hw : Hw G c s H := by rw [hH]; exact hw
  have hS : va_S (gA G) s.heap H locs := by rw [hH, hlocs]; exact hS
  suffices hgo : W p l e ({ frames := 1, cells := 0, slots := 0, locals := 24 } : Room) s m (([.ref (gad G 8)] : List Value).toArray) below meth cd H locs 0 0 (MQ below (va_Qi (fun r (c9 : Nat → va_E) => r = nI (zp z) ∧ c9 = va_up c 8 (.inr (1, [.int (zn5 z)]))) (fun c9 t => Hw G c9 t t.heap) (gA G)) ([.ref (gad G 8)] : List Value).toArray s 0 0 (gA G)) (F0 m 0 ls []) by rw [hH, hlocs] at hgo; exact hgo
  refine lv_aload_n hx hb dX2_nextProfile_0 rfl (lv_at hl 0 rfl) ?_
  refine lv_bipush (v := 100) hx hb dX2_nextProfile_1 (by decide) ?_
  refine cQi (rV (As := [_]) ⟨hx, hb, hml, hown, hts⟩ hw (k_X2_nextRest l z1 (x := 100) (by decide) (by decide)) (cv_X2_nextRest hts tw_461 rfl rfl ⟨Nat.le_of_ble_eq_true rfl, Nat.le_of_ble_eq_true rfl⟩) (by decide) z1 rfl rfl hl.1 rfl (by first | exact Nat.le_of_ble_eq_true rfl | decide) dX2_nextProfile_3 ⟨Nat.zero_le _, Nat.zero_le _⟩) hw hS (fun r3 w1 H locs hp3 hw hS => ?_)
  obtain ⟨er3, ec3⟩ := hp3
  have z1 : w1 8 = .inr (1, [.int (zn z)]) := by rw [ec3]; exact vu_s
  subst er3
  refine lv_istore_n (lv' := [(1, _), (0, _)]) hx hb dX2_nextProfile_6 rfl hl (by decide) rfl (fun ls hl => ?_)
  refine lv_aload_n hx hb dX2_nextProfile_7 rfl (lv_at hl 1 rfl) ?_
  refine lv_bipush (v := 100) hx hb dX2_nextProfile_8 (by decide) ?_
  refine cQi (rV (As := [_]) ⟨hx, hb, hml, hown, hts⟩ hw (k_X2_nextRest l z1 (x := 100) (by decide) (by decide)) (cv_X2_nextRest hts tw_461 rfl rfl ⟨Nat.le_of_ble_eq_true rfl, Nat.le_of_ble_eq_true rfl⟩) (by decide) z1 rfl rfl hl.1 rfl (by first | exact Nat.le_of_ble_eq_true rfl | decide) dX2_nextProfile_10 ⟨Nat.zero_le _, Nat.zero_le _⟩) hw hS (fun r10 w2 H locs hp10 hw hS => ?_)
  obtain ⟨er10, ec10⟩ := hp10
  have z2 : w2 8 = .inr (1, [.int (zn (zn z))]) := by rw [ec10]; exact vu_s
  subst er10
  refine lv_istore_n (lv' := [(2, _), (1, _), (0, _)]) hx hb dX2_nextProfile_13 rfl hl (by decide) rfl (fun ls hl => ?_)
  refine lv_aload_n hx hb dX2_nextProfile_14 rfl (lv_at hl 2 rfl) ?_
  refine lv_bipush (v := 10) hx hb dX2_nextProfile_15 (by decide) ?_
  refine cQi (rV (As := [_]) ⟨hx, hb, hml, hown, hts⟩ hw (k_X2_nextRest l z2 (x := 10) (by decide) (by decide)) (cv_X2_nextRest hts tw_461 rfl rfl ⟨Nat.le_of_ble_eq_true rfl, Nat.le_of_ble_eq_true rfl⟩) (by decide) z2 rfl rfl hl.1 rfl (by first | exact Nat.le_of_ble_eq_true rfl | decide) dX2_nextProfile_17 ⟨Nat.zero_le _, Nat.zero_le _⟩) hw hS (fun r17 w3 H locs hp17 hw hS => ?_)
  obtain ⟨er17, ec17⟩ := hp17
  have z3 : w3 8 = .inr (1, [.int (zn (zn (zn z)))]) := by rw [ec17]; exact vu_s
  subst er17
  refine lv_istore_n (lv' := [(3, _), (2, _), (1, _), (0, _)]) hx hb dX2_nextProfile_20 rfl hl (by decide) rfl (fun ls hl => ?_)
  refine lv_aload_n hx hb dX2_nextProfile_21 rfl (lv_at hl 3 rfl) ?_
  refine lv_bipush (v := 8) hx hb dX2_nextProfile_22 (by decide) ?_
  refine cQi (rV (As := [_]) ⟨hx, hb, hml, hown, hts⟩ hw (k_X2_nextRest l z3 (x := 8) (by decide) (by decide)) (cv_X2_nextRest hts tw_461 rfl rfl ⟨Nat.le_of_ble_eq_true rfl, Nat.le_of_ble_eq_true rfl⟩) (by decide) z3 rfl rfl hl.1 rfl (by first | exact Nat.le_of_ble_eq_true rfl | decide) dX2_nextProfile_24 ⟨Nat.zero_le _, Nat.zero_le _⟩) hw hS (fun r24 w4 H locs hp24 hw hS => ?_)
  obtain ⟨er24, ec24⟩ := hp24
  have z4 : w4 8 = .inr (1, [.int (zn (zn (zn (zn z))))]) := by rw [ec24]; exact vu_s
  subst er24
  refine lv_istore (lv' := [(4, _), (3, _), (2, _), (1, _), (0, _)]) hx hb dX2_nextProfile_27 hl (by decide) rfl (fun ls hl => ?_)
  refine lv_aload_n hx hb dX2_nextProfile_29 rfl (lv_at hl 4 rfl) ?_
  refine lv_bipush (v := 32) hx hb dX2_nextProfile_30 (by decide) ?_
  refine cQi (rV (As := [_]) ⟨hx, hb, hml, hown, hts⟩ hw (k_X2_nextRest l z4 (x := 32) (by decide) (by decide)) (cv_X2_nextRest hts tw_461 rfl rfl ⟨Nat.le_of_ble_eq_true rfl, Nat.le_of_ble_eq_true rfl⟩) (by decide) z4 rfl rfl hl.1 rfl (by first | exact Nat.le_of_ble_eq_true rfl | decide) dX2_nextProfile_32 ⟨Nat.zero_le _, Nat.zero_le _⟩) hw hS (fun r32 w5 H locs hp32 hw hS => ?_)
  obtain ⟨er32, ec32⟩ := hp32
  have z5 : w5 8 = .inr (1, [.int (zn (zn (zn (zn (zn z)))))]) := by rw [ec32]; exact vu_s
  subst er32
  refine lv_istore (lv' := [(5, _), (4, _), (3, _), (2, _), (1, _), (0, _)]) hx hb dX2_nextProfile_35 hl (by decide) rfl (fun ls hl => ?_)
  refine lv_iload_n hx hb dX2_nextProfile_37 rfl (lv_at hl 4 rfl) ?_
  refine lv_iload_n hx hb dX2_nextProfile_38 rfl (lv_at hl 3 rfl) ?_
  refine lv_iload_n hx hb dX2_nextProfile_39 rfl (lv_at hl 2 rfl) ?_
  refine lv_iload hx hb dX2_nextProfile_40 (lv_at hl 1 rfl) ?_
  refine lv_iload hx hb dX2_nextProfile_42 (lv_at hl 0 rfl) ?_
  refine cSe (rST (As := [_, _, _, _, _]) ⟨hx, hb, hml, hown, hts⟩ (k_X9_together l ) (cv_X9_together hts tw_466 rfl rfl ⟨Nat.le_of_ble_eq_true rfl, Nat.le_of_ble_eq_true rfl⟩) rfl hl.1 rfl (by first | exact Nat.le_of_ble_eq_true rfl | decide) dX2_nextProfile_44 ⟨Nat.zero_le _, Nat.zero_le _⟩) ?_
  exact re_Q hx hb hr hlocks (rfl) hw hS dX2_nextProfile_47 (⟨zp_eq _ _ _ _ _, by rw [ec32, ec24, ec17, ec10, ec3, up_up, up_up, up_up, up_up]; rfl⟩)
set_option maxHeartbeats 4000000 in
set_option maxRecDepth 100000 in
theorem k_X1_become_m (l : Launch) {G : GT} {c : Nat → va_E} {n n2 : Nat} {f f2 : Nat → Int32} (h1 : c 3 = .inr (0, [.ref (gad G 4), .int (nI n)])) (h2 : c 4 = .inl (gI G, 132, .inl f)) (g1 : c 1 = .inr (0, [.ref (gad G 2), .int (nI n2)])) (g2 : c 2 = .inl (gI G, 132, .inl f2)) : Met l yX1_become (wv yX1_become cX1_become 2 none) ({ frames := 1, cells := 0, slots := 0, locals := 26 } : Room) (va_Pc [.ref (gad G 3), .ref (gad G 1)] (fun U => Hw G c U U.heap)) (va_Qv (fun c9 : Nat → va_E => c9 = va_up (va_up c 3 (.inr (0, [.ref (gad G 4), .int (nI n2)]))) 4 (.inl (gI G, 132, .inl f2))) (fun c9 t => Hw G c9 t t.heap) (gA G)) 0 0 (gA G) := by
  refine en (by decide +kernel) (by first | exact Nat.le_of_ble_eq_true rfl | decide) ?_
  intro p e s m below meth cd ls hx hb hr hml hown hts hlocks hnm hw hl
  have hl : lv_has ls 2 [(0, .ref (gad G 3)), (1, .ref (gad G 1))] := hl
  have hX : Sw G s s.heap := hw.2.2.2.2.2
  have hS : va_S (gA G) s.heap s.heap [] := va_S.rf
  obtain ⟨H, hH⟩ : ∃ wz9, wz9 = s.heap := ⟨_, rfl⟩
  obtain ⟨locs, hlocs⟩ : ∃ wz9 : List Loc, wz9 = [] := ⟨_, rfl⟩
  have hw : Hw G c s H := by rw [hH]; exact hw
  have hS : va_S (gA G) s.heap H locs := by rw [hH, hlocs]; exact hS
  suffices hgo : W p l e ({ frames := 1, cells := 0, slots := 0, locals := 26 } : Room) s m (([.ref (gad G 3), .ref (gad G 1)] : List Value).toArray) below meth cd H locs 0 0 (MQ below (va_Qv (fun c9 : Nat → va_E => c9 = va_up (va_up c 3 (.inr (0, [.ref (gad G 4), .int (nI n2)]))) 4 (.inl (gI G, 132, .inl f2))) (fun c9 t => Hw G c9 t t.heap) (gA G)) ([.ref (gad G 3), .ref (gad G 1)] : List Value).toArray s 0 0 (gA G)) (F0 m 0 ls []) by rw [hH, hlocs] at hgo; exact hgo
  refine lv_aload_n hx hb dX1_become_0 rfl (lv_at hl 0 rfl) ?_
  refine lv_aload_n hx hb dX1_become_1 rfl (lv_at hl 1 rfl) ?_
  refine w_get (C := RX1) (T := TX1) (N := 2) 1 hx hb hts inX1 hown hw (by decide) g1 rfl (by decide) (hts _ tw_37) rfl dX1_become_2 ?_
  refine w_put (C := RX1) (T := TX1) (N := 2) (v := .int (nI n2)) 1 tyX1 hx hb hts inX1 tyX1_ok nmX1 hown hw hX hS (by decide) h1 rfl (by decide) (hts _ tw_37) rfl rfl (rfl) (rfl) (Nat.le_of_ble_eq_true rfl) dX1_become_5 (fun H locs hw hS => ?_)
  obtain ⟨w2, ew2⟩ : ∃ wz9 : Nat → va_E, wz9 = va_up c 3 (.inr (0, [.ref (gad G 4), .int (nI n2)])) := ⟨_, rfl⟩
  have hw : Hw G w2 s H := by rw [ew2]; exact hw
  have h1_2 : w2 3 = .inr (0, [.ref (gad G 4), .int (nI n2)]) := by rw [ew2]; exact vu_s
  have h2_2 : w2 4 = .inl (gI G, 132, .inl f) := by rw [ew2]; exact vu_e (by decide) h2
  have g1_2 : w2 1 = .inr (0, [.ref (gad G 2), .int (nI n2)]) := by rw [ew2]; exact vu_e (by decide) g1
  have g2_2 : w2 2 = .inl (gI G, 132, .inl f2) := by rw [ew2]; exact vu_e (by decide) g2
  refine lv_aload_n hx hb dX1_become_8 rfl (lv_at hl 1 rfl) ?_
  refine w_get (C := RX1) (T := TX1) (N := 2) 0 hx hb hts inX1 hown hw (by decide) g1_2 rfl (by decide) (hts _ tw_36) rfl dX1_become_9 ?_
  refine lv_iconst (v := 0) hx hb dX1_become_12 (by decide) ?_
  refine lv_aload_n hx hb dX1_become_13 rfl (lv_at hl 0 rfl) ?_
  refine w_get (C := RX1) (T := TX1) (N := 2) 0 hx hb hts inX1 hown hw (by decide) h1_2 rfl (by decide) (hts _ tw_36) rfl dX1_become_14 ?_
  refine lv_iconst (v := 0) hx hb dX1_become_17 (by decide) ?_
  refine lv_aload_n hx hb dX1_become_18 rfl (lv_at hl 0 rfl) ?_
  refine w_get (C := RX1) (T := TX1) (N := 2) 0 hx hb hts inX1 hown hw (by decide) h1_2 rfl (by decide) (hts _ tw_36) rfl dX1_become_19 ?_
  refine w_alen hx hb hw (by decide) h2_2 dX1_become_22 ?_
  refine w_copy (a := 0) (b := 0) (q := 132) hx hb (hml.trans hl.1.symm) hown (hts _ tw_489) (hts _ tw_491) (hts _ tw_490) (hts _ tw_17) hw hX hS (by decide) g2_2 (by decide) h2_2 (rfl) (rfl) (rfl) (by decide) (by decide) (by decide) (by decide) (Nat.le_of_ble_eq_true rfl) (by first | exact Nat.le_of_ble_eq_true rfl | decide) dX1_become_23 (fun H locs hw hS => ?_)
  obtain ⟨w3, ew3⟩ : ∃ wz9 : Nat → va_E, wz9 = va_up w2 4 (.inl (gI G, 132, .inl (va_cpy f2 f (0) (0) (132)))) := ⟨_, rfl⟩
  have hw : Hw G w3 s H := by rw [ew3]; exact hw
  have h1_3 : w3 3 = .inr (0, [.ref (gad G 4), .int (nI n2)]) := by rw [ew3]; exact vu_e (by decide) h1_2
  have h2_3 : w3 4 = .inl (gI G, 132, .inl (va_cpy f2 f (0) (0) (132))) := by rw [ew3]; exact vu_s
  have g1_3 : w3 1 = .inr (0, [.ref (gad G 2), .int (nI n2)]) := by rw [ew3]; exact vu_e (by decide) g1_2
  have g2_3 : w3 2 = .inl (gI G, 132, .inl f2) := by rw [ew3]; exact vu_e (by decide) g2_2
  have hw := Hw.ext (c := w2) (j := 4) (n := 132) (g := va_cpy f2 f 0 0 132) (g' := f2) (by decide) (by rw [← ew3]; exact hw) (fun q hq => sb_cpy0 hq)
  exact re_V hx hb hr hlocks hw hS dX1_become_26 (by rw [ew2])
set_option maxHeartbeats 4000000 in
set_option maxRecDepth 100000 in
theorem k_X1_become_i (l : Launch) {G : GT} {c : Nat → va_E} {n n2 : Nat} {f f2 : Nat → Int32} (h1 : c 27 = .inr (0, [.ref (gad G 28), .int (nI n)])) (h2 : c 28 = .inl (gI G, 132, .inl f)) (g1 : c 1 = .inr (0, [.ref (gad G 2), .int (nI n2)])) (g2 : c 2 = .inl (gI G, 132, .inl f2)) : Met l yX1_become (wv yX1_become cX1_become 2 none) ({ frames := 1, cells := 0, slots := 0, locals := 26 } : Room) (va_Pc [.ref (gad G 27), .ref (gad G 1)] (fun U => Hw G c U U.heap)) (va_Qv (fun c9 : Nat → va_E => c9 = va_up (va_up c 27 (.inr (0, [.ref (gad G 28), .int (nI n2)]))) 28 (.inl (gI G, 132, .inl f2))) (fun c9 t => Hw G c9 t t.heap) (gA G)) 0 0 (gA G) := by
  refine en (by decide +kernel) (by first | exact Nat.le_of_ble_eq_true rfl | decide) ?_
  intro p e s m below meth cd ls hx hb hr hml hown hts hlocks hnm hw hl
  have hl : lv_has ls 2 [(0, .ref (gad G 27)), (1, .ref (gad G 1))] := hl
  have hX : Sw G s s.heap := hw.2.2.2.2.2
  have hS : va_S (gA G) s.heap s.heap [] := va_S.rf
  obtain ⟨H, hH⟩ : ∃ wz9, wz9 = s.heap := ⟨_, rfl⟩
  obtain ⟨locs, hlocs⟩ : ∃ wz9 : List Loc, wz9 = [] := ⟨_, rfl⟩
  have hw : Hw G c s H := by rw [hH]; exact hw
  have hS : va_S (gA G) s.heap H locs := by rw [hH, hlocs]; exact hS
  suffices hgo : W p l e ({ frames := 1, cells := 0, slots := 0, locals := 26 } : Room) s m (([.ref (gad G 27), .ref (gad G 1)] : List Value).toArray) below meth cd H locs 0 0 (MQ below (va_Qv (fun c9 : Nat → va_E => c9 = va_up (va_up c 27 (.inr (0, [.ref (gad G 28), .int (nI n2)]))) 28 (.inl (gI G, 132, .inl f2))) (fun c9 t => Hw G c9 t t.heap) (gA G)) ([.ref (gad G 27), .ref (gad G 1)] : List Value).toArray s 0 0 (gA G)) (F0 m 0 ls []) by rw [hH, hlocs] at hgo; exact hgo
  refine lv_aload_n hx hb dX1_become_0 rfl (lv_at hl 0 rfl) ?_
  refine lv_aload_n hx hb dX1_become_1 rfl (lv_at hl 1 rfl) ?_
  refine w_get (C := RX1) (T := TX1) (N := 2) 1 hx hb hts inX1 hown hw (by decide) g1 rfl (by decide) (hts _ tw_37) rfl dX1_become_2 ?_
  refine w_put (C := RX1) (T := TX1) (N := 2) (v := .int (nI n2)) 1 tyX1 hx hb hts inX1 tyX1_ok nmX1 hown hw hX hS (by decide) h1 rfl (by decide) (hts _ tw_37) rfl rfl (rfl) (rfl) (Nat.le_of_ble_eq_true rfl) dX1_become_5 (fun H locs hw hS => ?_)
  obtain ⟨w2, ew2⟩ : ∃ wz9 : Nat → va_E, wz9 = va_up c 27 (.inr (0, [.ref (gad G 28), .int (nI n2)])) := ⟨_, rfl⟩
  have hw : Hw G w2 s H := by rw [ew2]; exact hw
  have h1_2 : w2 27 = .inr (0, [.ref (gad G 28), .int (nI n2)]) := by rw [ew2]; exact vu_s
  have h2_2 : w2 28 = .inl (gI G, 132, .inl f) := by rw [ew2]; exact vu_e (by decide) h2
  have g1_2 : w2 1 = .inr (0, [.ref (gad G 2), .int (nI n2)]) := by rw [ew2]; exact vu_e (by decide) g1
  have g2_2 : w2 2 = .inl (gI G, 132, .inl f2) := by rw [ew2]; exact vu_e (by decide) g2
  refine lv_aload_n hx hb dX1_become_8 rfl (lv_at hl 1 rfl) ?_
  refine w_get (C := RX1) (T := TX1) (N := 2) 0 hx hb hts inX1 hown hw (by decide) g1_2 rfl (by decide) (hts _ tw_36) rfl dX1_become_9 ?_
  refine lv_iconst (v := 0) hx hb dX1_become_12 (by decide) ?_
  refine lv_aload_n hx hb dX1_become_13 rfl (lv_at hl 0 rfl) ?_
  refine w_get (C := RX1) (T := TX1) (N := 2) 0 hx hb hts inX1 hown hw (by decide) h1_2 rfl (by decide) (hts _ tw_36) rfl dX1_become_14 ?_
  refine lv_iconst (v := 0) hx hb dX1_become_17 (by decide) ?_
  refine lv_aload_n hx hb dX1_become_18 rfl (lv_at hl 0 rfl) ?_
  refine w_get (C := RX1) (T := TX1) (N := 2) 0 hx hb hts inX1 hown hw (by decide) h1_2 rfl (by decide) (hts _ tw_36) rfl dX1_become_19 ?_
  refine w_alen hx hb hw (by decide) h2_2 dX1_become_22 ?_
  refine w_copy (a := 0) (b := 0) (q := 132) hx hb (hml.trans hl.1.symm) hown (hts _ tw_489) (hts _ tw_491) (hts _ tw_490) (hts _ tw_17) hw hX hS (by decide) g2_2 (by decide) h2_2 (rfl) (rfl) (rfl) (by decide) (by decide) (by decide) (by decide) (Nat.le_of_ble_eq_true rfl) (by first | exact Nat.le_of_ble_eq_true rfl | decide) dX1_become_23 (fun H locs hw hS => ?_)
  obtain ⟨w3, ew3⟩ : ∃ wz9 : Nat → va_E, wz9 = va_up w2 28 (.inl (gI G, 132, .inl (va_cpy f2 f (0) (0) (132)))) := ⟨_, rfl⟩
  have hw : Hw G w3 s H := by rw [ew3]; exact hw
  have h1_3 : w3 27 = .inr (0, [.ref (gad G 28), .int (nI n2)]) := by rw [ew3]; exact vu_e (by decide) h1_2
  have h2_3 : w3 28 = .inl (gI G, 132, .inl (va_cpy f2 f (0) (0) (132))) := by rw [ew3]; exact vu_s
  have g1_3 : w3 1 = .inr (0, [.ref (gad G 2), .int (nI n2)]) := by rw [ew3]; exact vu_e (by decide) g1_2
  have g2_3 : w3 2 = .inl (gI G, 132, .inl f2) := by rw [ew3]; exact vu_e (by decide) g2_2
  have hw := Hw.ext (c := w2) (j := 28) (n := 132) (g := va_cpy f2 f 0 0 132) (g' := f2) (by decide) (by rw [← ew3]; exact hw) (fun q hq => sb_cpy0 hq)
  exact re_V hx hb hr hlocks hw hS dX1_become_26 (by rw [ew2])
set_option maxHeartbeats 4000000 in
set_option maxRecDepth 100000 in
theorem k_X1_become_b (l : Launch) {G : GT} {c : Nat → va_E} {n n2 : Nat} {f f2 : Nat → Int32} (h1 : c 1 = .inr (0, [.ref (gad G 2), .int (nI n)])) (h2 : c 2 = .inl (gI G, 132, .inl f)) (g1 : c 27 = .inr (0, [.ref (gad G 28), .int (nI n2)])) (g2 : c 28 = .inl (gI G, 132, .inl f2)) : Met l yX1_become (wv yX1_become cX1_become 2 none) ({ frames := 1, cells := 0, slots := 0, locals := 26 } : Room) (va_Pc [.ref (gad G 1), .ref (gad G 27)] (fun U => Hw G c U U.heap)) (va_Qv (fun c9 : Nat → va_E => c9 = va_up (va_up c 1 (.inr (0, [.ref (gad G 2), .int (nI n2)]))) 2 (.inl (gI G, 132, .inl f2))) (fun c9 t => Hw G c9 t t.heap) (gA G)) 0 0 (gA G) := by
  refine en (by decide +kernel) (by first | exact Nat.le_of_ble_eq_true rfl | decide) ?_
  intro p e s m below meth cd ls hx hb hr hml hown hts hlocks hnm hw hl
  have hl : lv_has ls 2 [(0, .ref (gad G 1)), (1, .ref (gad G 27))] := hl
  have hX : Sw G s s.heap := hw.2.2.2.2.2
  have hS : va_S (gA G) s.heap s.heap [] := va_S.rf
  obtain ⟨H, hH⟩ : ∃ wz9, wz9 = s.heap := ⟨_, rfl⟩
  obtain ⟨locs, hlocs⟩ : ∃ wz9 : List Loc, wz9 = [] := ⟨_, rfl⟩
  have hw : Hw G c s H := by rw [hH]; exact hw
  have hS : va_S (gA G) s.heap H locs := by rw [hH, hlocs]; exact hS
  suffices hgo : W p l e ({ frames := 1, cells := 0, slots := 0, locals := 26 } : Room) s m (([.ref (gad G 1), .ref (gad G 27)] : List Value).toArray) below meth cd H locs 0 0 (MQ below (va_Qv (fun c9 : Nat → va_E => c9 = va_up (va_up c 1 (.inr (0, [.ref (gad G 2), .int (nI n2)]))) 2 (.inl (gI G, 132, .inl f2))) (fun c9 t => Hw G c9 t t.heap) (gA G)) ([.ref (gad G 1), .ref (gad G 27)] : List Value).toArray s 0 0 (gA G)) (F0 m 0 ls []) by rw [hH, hlocs] at hgo; exact hgo
  refine lv_aload_n hx hb dX1_become_0 rfl (lv_at hl 0 rfl) ?_
  refine lv_aload_n hx hb dX1_become_1 rfl (lv_at hl 1 rfl) ?_
  refine w_get (C := RX1) (T := TX1) (N := 2) 1 hx hb hts inX1 hown hw (by decide) g1 rfl (by decide) (hts _ tw_37) rfl dX1_become_2 ?_
  refine w_put (C := RX1) (T := TX1) (N := 2) (v := .int (nI n2)) 1 tyX1 hx hb hts inX1 tyX1_ok nmX1 hown hw hX hS (by decide) h1 rfl (by decide) (hts _ tw_37) rfl rfl (rfl) (rfl) (Nat.le_of_ble_eq_true rfl) dX1_become_5 (fun H locs hw hS => ?_)
  obtain ⟨w2, ew2⟩ : ∃ wz9 : Nat → va_E, wz9 = va_up c 1 (.inr (0, [.ref (gad G 2), .int (nI n2)])) := ⟨_, rfl⟩
  have hw : Hw G w2 s H := by rw [ew2]; exact hw
  have h1_2 : w2 1 = .inr (0, [.ref (gad G 2), .int (nI n2)]) := by rw [ew2]; exact vu_s
  have h2_2 : w2 2 = .inl (gI G, 132, .inl f) := by rw [ew2]; exact vu_e (by decide) h2
  have g1_2 : w2 27 = .inr (0, [.ref (gad G 28), .int (nI n2)]) := by rw [ew2]; exact vu_e (by decide) g1
  have g2_2 : w2 28 = .inl (gI G, 132, .inl f2) := by rw [ew2]; exact vu_e (by decide) g2
  refine lv_aload_n hx hb dX1_become_8 rfl (lv_at hl 1 rfl) ?_
  refine w_get (C := RX1) (T := TX1) (N := 2) 0 hx hb hts inX1 hown hw (by decide) g1_2 rfl (by decide) (hts _ tw_36) rfl dX1_become_9 ?_
  refine lv_iconst (v := 0) hx hb dX1_become_12 (by decide) ?_
  refine lv_aload_n hx hb dX1_become_13 rfl (lv_at hl 0 rfl) ?_
  refine w_get (C := RX1) (T := TX1) (N := 2) 0 hx hb hts inX1 hown hw (by decide) h1_2 rfl (by decide) (hts _ tw_36) rfl dX1_become_14 ?_
  refine lv_iconst (v := 0) hx hb dX1_become_17 (by decide) ?_
  refine lv_aload_n hx hb dX1_become_18 rfl (lv_at hl 0 rfl) ?_
  refine w_get (C := RX1) (T := TX1) (N := 2) 0 hx hb hts inX1 hown hw (by decide) h1_2 rfl (by decide) (hts _ tw_36) rfl dX1_become_19 ?_
  refine w_alen hx hb hw (by decide) h2_2 dX1_become_22 ?_
  refine w_copy (a := 0) (b := 0) (q := 132) hx hb (hml.trans hl.1.symm) hown (hts _ tw_489) (hts _ tw_491) (hts _ tw_490) (hts _ tw_17) hw hX hS (by decide) g2_2 (by decide) h2_2 (rfl) (rfl) (rfl) (by decide) (by decide) (by decide) (by decide) (Nat.le_of_ble_eq_true rfl) (by first | exact Nat.le_of_ble_eq_true rfl | decide) dX1_become_23 (fun H locs hw hS => ?_)
  obtain ⟨w3, ew3⟩ : ∃ wz9 : Nat → va_E, wz9 = va_up w2 2 (.inl (gI G, 132, .inl (va_cpy f2 f (0) (0) (132)))) := ⟨_, rfl⟩
  have hw : Hw G w3 s H := by rw [ew3]; exact hw
  have h1_3 : w3 1 = .inr (0, [.ref (gad G 2), .int (nI n2)]) := by rw [ew3]; exact vu_e (by decide) h1_2
  have h2_3 : w3 2 = .inl (gI G, 132, .inl (va_cpy f2 f (0) (0) (132))) := by rw [ew3]; exact vu_s
  have g1_3 : w3 27 = .inr (0, [.ref (gad G 28), .int (nI n2)]) := by rw [ew3]; exact vu_e (by decide) g1_2
  have g2_3 : w3 28 = .inl (gI G, 132, .inl f2) := by rw [ew3]; exact vu_e (by decide) g2_2
  have hw := Hw.ext (c := w2) (j := 2) (n := 132) (g := va_cpy f2 f 0 0 132) (g' := f2) (by decide) (by rw [← ew3]; exact hw) (fun q hq => sb_cpy0 hq)
  exact re_V hx hb hr hlocks hw hS dX1_become_26 (by rw [ew2])
set_option maxHeartbeats 4000000 in
set_option maxRecDepth 100000 in
theorem k_X5_size (l : Launch) {G : GT} {c : Nat → va_E} {rn : Nat} {rf rt : Nat → Int32} (r1 : c 5 = .inr (4, [.ref (gad G 6), .ref (gad G 7), .int (nI rn)])) (r2 : c 6 = .inl (gI G, 128, .inl rf)) (r3 : c 7 = .inl (gI G, 16, .inl rt)) (hrn : rn ≤ 16) : Met l yX5_size (wv yX5_size cX5_size 1 (some .int)) ({ frames := 0, cells := 0, slots := 0, locals := 0 } : Room) (va_Pc [.ref (gad G 5)] (fun U => Hw G c U U.heap)) (vp_Si (fun r => r = nI rn)) 0 0 (fun _ => False) := by
  refine en (by decide +kernel) (by first | exact Nat.le_of_ble_eq_true rfl | decide) ?_
  intro p e s m below meth cd ls hx hb hr hml hown hts hlocks hnm hw hl
  have hl : lv_has ls 1 [(0, .ref (gad G 5))] := hl
  refine lv_aload_n hx hb dX5_size_0 rfl (lv_at hl 0 rfl) ?_
  refine w_get (C := RX5) (T := TX5) (N := 3) 2 hx hb hts inX5 hown hw (by decide) r1 rfl (by decide) (hts _ tw_52) rfl dX5_size_1 ?_
  exact re_S hx hb hr hlocks (rfl) dX5_size_4 (rfl)
set_option maxHeartbeats 4000000 in
set_option maxRecDepth 100000 in
theorem k_X5_empty (l : Launch) {G : GT} {c : Nat → va_E} {rn : Nat} {rf rt : Nat → Int32} (r1 : c 5 = .inr (4, [.ref (gad G 6), .ref (gad G 7), .int (nI rn)])) (r2 : c 6 = .inl (gI G, 128, .inl rf)) (r3 : c 7 = .inl (gI G, 16, .inl rt)) (hrn : rn ≤ 16) : Met l yX5_empty (wv yX5_empty cX5_empty 1 none) ({ frames := 0, cells := 0, slots := 0, locals := 0 } : Room) (va_Pc [.ref (gad G 5)] (fun U => Hw G c U U.heap)) (va_Qv (fun c9 : Nat → va_E => c9 = va_up c 5 (.inr (4, [.ref (gad G 6), .ref (gad G 7), .int (nI 0)]))) (fun c9 t => Hw G c9 t t.heap) (gA G)) 0 0 (gA G) := by
  refine en (by decide +kernel) (by first | exact Nat.le_of_ble_eq_true rfl | decide) ?_
  intro p e s m below meth cd ls hx hb hr hml hown hts hlocks hnm hw hl
  have hl : lv_has ls 1 [(0, .ref (gad G 5))] := hl
  have hX : Sw G s s.heap := hw.2.2.2.2.2
  have hS : va_S (gA G) s.heap s.heap [] := va_S.rf
  obtain ⟨H, hH⟩ : ∃ wz9, wz9 = s.heap := ⟨_, rfl⟩
  obtain ⟨locs, hlocs⟩ : ∃ wz9 : List Loc, wz9 = [] := ⟨_, rfl⟩
  have hw : Hw G c s H := by rw [hH]; exact hw
  have hS : va_S (gA G) s.heap H locs := by rw [hH, hlocs]; exact hS
  suffices hgo : W p l e ({ frames := 0, cells := 0, slots := 0, locals := 0 } : Room) s m (([.ref (gad G 5)] : List Value).toArray) below meth cd H locs 0 0 (MQ below (va_Qv (fun c9 : Nat → va_E => c9 = va_up c 5 (.inr (4, [.ref (gad G 6), .ref (gad G 7), .int (nI 0)]))) (fun c9 t => Hw G c9 t t.heap) (gA G)) ([.ref (gad G 5)] : List Value).toArray s 0 0 (gA G)) (F0 m 0 ls []) by rw [hH, hlocs] at hgo; exact hgo
  refine lv_aload_n hx hb dX5_empty_0 rfl (lv_at hl 0 rfl) ?_
  refine lv_iconst (v := 0) hx hb dX5_empty_1 (by decide) ?_
  refine w_put (C := RX5) (T := TX5) (N := 3) (v := .int (nI 0)) 2 tyX5 hx hb hts inX5 tyX5_ok nmX5 hown hw hX hS (by decide) r1 rfl (by decide) (hts _ tw_52) rfl rfl (rfl) (rfl) (Nat.le_of_ble_eq_true rfl) dX5_empty_2 (fun H locs hw hS => ?_)
  obtain ⟨w2, ew2⟩ : ∃ wz9 : Nat → va_E, wz9 = va_up c 5 (.inr (4, [.ref (gad G 6), .ref (gad G 7), .int (nI 0)])) := ⟨_, rfl⟩
  have hw : Hw G w2 s H := by rw [ew2]; exact hw
  have r1_2 : w2 5 = .inr (4, [.ref (gad G 6), .ref (gad G 7), .int (nI 0)]) := by rw [ew2]; exact vu_s
  have r2_2 : w2 6 = .inl (gI G, 128, .inl rf) := by rw [ew2]; exact vu_e (by decide) r2
  have r3_2 : w2 7 = .inl (gI G, 16, .inl rt) := by rw [ew2]; exact vu_e (by decide) r3
  exact re_V hx hb hr hlocks hw hS dX5_empty_5 (ew2)
set_option maxHeartbeats 4000000 in
set_option maxRecDepth 100000 in
theorem k_X5_saysSame (l : Launch) {G : GT} {c : Nat → va_E} {rn : Nat} {rf rt : Nat → Int32} (r1 : c 5 = .inr (4, [.ref (gad G 6), .ref (gad G 7), .int (nI rn)])) (r2 : c 6 = .inl (gI G, 128, .inl rf)) (r3 : c 7 = .inl (gI G, 16, .inl rt)) (hrn : rn ≤ 16) {n a : Nat} {f : Nat → Int32} (h1 : c 1 = .inr (0, [.ref (gad G 2), .int (nI n)])) (h2 : c 2 = .inl (gI G, 132, .inl f)) (hn : n ≤ 12) (ha : a < n) {pl : Nat} (hpl : pl < rn) : Met l yX5_saysSame (wv yX5_saysSame cX5_saysSame 5 (some .boolean)) ({ frames := 1, cells := 0, slots := 0, locals := 22 } : Room) (va_Pc [.ref (gad G 5), .int (nI pl), .ref (gad G 1), .int (nI a)] (fun U => Hw G c U U.heap)) (vp_Si (fun r => r = bi (rsm rf f pl a))) 0 0 (fun _ => False) := by
  refine en (by decide +kernel) (by first | exact Nat.le_of_ble_eq_true rfl | decide) ?_
  intro p e s m below meth cd ls hx hb hr hml hown hts hlocks hnm hw hl
  have hl : lv_has ls 5 [(0, .ref (gad G 5)), (1, .int (nI pl)), (2, .ref (gad G 1)), (3, .int (nI a))] := hl
  refine lv_iconst (v := 0) hx hb dX5_saysSame_0 (by decide) ?_
  refine lv_istore (lv' := [(4, _), (0, _), (1, _), (2, _), (3, _)]) hx hb dX5_saysSame_1 hl (by decide) rfl (fun ls hl => ?_)
  have L3 : ∀ (N : Nat) (i : Nat), (i + N = 8) → (allU (fun i => decide (rf (pl * 8 + i) = f (a * 11 + i))) i = true) → ∀ ls : Array Slot, lv_has ls 5 [(4, .int (nI i)), (3, .int (nI a)), (2, .ref (gad G 1)), (1, .int (nI pl)), (0, .ref (gad G 5))] → W p l e ({ frames := 1, cells := 0, slots := 0, locals := 22 } : Room) s m (([.ref (gad G 5), .int (nI pl), .ref (gad G 1), .int (nI a)] : List Value).toArray) below meth cd s.heap [] 0 0 (MQ below (vp_Si (fun r => r = bi (rsm rf f pl a))) ([.ref (gad G 5), .int (nI pl), .ref (gad G 1), .int (nI a)] : List Value).toArray s 0 0 (fun _ => False)) (F0 m 3 ls []) := by
    intro N
    induction N with
    | zero =>
      intro i  hN hA ls hl
      obtain rfl : i = 8 := by omega
      refine lv_iload hx hb dX5_saysSame_3 (lv_at hl 0 rfl) ?_
      refine lv_bipush (v := 8) hx hb dX5_saysSame_5 (by decide) ?_
      refine lv_icmp_ge (tgt := 40) hx hb dX5_saysSame_7 (by decide) (fun c7 => ?_) (fun q => absurd (by decide) q)
      refine lv_iconst (v := 1) hx hb dX5_saysSame_40 (by decide) ?_
      exact re_S hx hb hr hlocks (rfl) dX5_saysSame_41 (by rw [rsm, hA]; rfl)
    | succ N ih =>
      intro i  hN hA ls hl
      refine lv_iload hx hb dX5_saysSame_3 (lv_at hl 0 rfl) ?_
      refine lv_bipush (v := 8) hx hb dX5_saysSame_5 (by decide) ?_
      refine lv_icmp_ge (tgt := 40) hx hb dX5_saysSame_7 (by decide) (fun q => absurd q (nI_ge (b := 8) (by omega) (by omega))) (fun c7 => ?_)
      refine lv_aload_n hx hb dX5_saysSame_10 rfl (lv_at hl 4 rfl) ?_
      refine w_get (C := RX5) (T := TX5) (N := 3) 0 hx hb hts inX5 hown hw (by decide) r1 rfl (by decide) (hts _ tw_50) rfl dX5_saysSame_11 ?_
      refine lv_iload_n hx hb dX5_saysSame_14 rfl (lv_at hl 3 rfl) ?_
      refine lv_bipush (v := 8) hx hb dX5_saysSame_15 (by decide) ?_
      refine lv_imul hx hb dX5_saysSame_17 ?_
      refine lv_iload hx hb dX5_saysSame_18 (lv_at hl 0 rfl) ?_
      refine lv_iadd hx hb dX5_saysSame_20 ?_
      refine w_ialdN (j := pl * 8 + i) hx hb hw (by decide) r2 (ix8 pl i) (by omega) (by decide) dX5_saysSame_21 ?_
      refine lv_aload_n hx hb dX5_saysSame_22 rfl (lv_at hl 2 rfl) ?_
      refine lv_iload_n hx hb dX5_saysSame_23 rfl (lv_at hl 1 rfl) ?_
      refine lv_iload hx hb dX5_saysSame_24 (lv_at hl 0 rfl) ?_
      refine cSe (rV (As := [_, _]) ⟨hx, hb, hml, hown, hts⟩ hw (k_X1_at l (by decide) (by decide) h1 h2 hn (ix a i) (by omega)) (cv_X1_at hts tw_543 rfl rfl ⟨Nat.le_of_ble_eq_true rfl, Nat.le_of_ble_eq_true rfl⟩) (by decide) h1 rfl rfl hl.1 rfl (by first | exact Nat.le_of_ble_eq_true rfl | decide) dX5_saysSame_26 ⟨Nat.zero_le _, Nat.zero_le _⟩) ?_
      refine lv_icmp_eq (tgt := 34) hx hb dX5_saysSame_29 (by decide) (fun c29 => ?_) (fun c29 => ?_)
      · refine lv_iinc (v := nI (i + 1)) (lv' := [(4, _), (3, _), (2, _), (1, _), (0, _)]) hx hb dX5_saysSame_34 hl (k := 0) rfl (inc1 i) (by decide) rfl (fun ls hl => ?_)
        refine lv_goto (tgt := 3) hx hb dX5_saysSame_37 (by decide) ?_
        exact ih (i + 1) (by omega) (by rw [allU, hA]; simp [c29]) ls (lv_sub hl [0, 1, 2, 3, 4] rfl)
      · refine lv_iconst (v := 0) hx hb dX5_saysSame_32 (by decide) ?_
        exact re_S hx hb hr hlocks (rfl) dX5_saysSame_33 (by rw [rsm, allU_f (i := i) (by simp [c29]) 8 (by omega)]; rfl)
  exact L3 8 0 (by omega) rfl ls (lv_sub hl [0, 4, 3, 2, 1] rfl)
set_option maxHeartbeats 4000000 in
set_option maxRecDepth 100000 in
theorem k_X5_find (l : Launch) {G : GT} {c : Nat → va_E} {rn : Nat} {rf rt : Nat → Int32} (r1 : c 5 = .inr (4, [.ref (gad G 6), .ref (gad G 7), .int (nI rn)])) (r2 : c 6 = .inl (gI G, 128, .inl rf)) (r3 : c 7 = .inl (gI G, 16, .inl rt)) (hrn : rn ≤ 16) {n a : Nat} {f : Nat → Int32} (h1 : c 1 = .inr (0, [.ref (gad G 2), .int (nI n)])) (h2 : c 2 = .inl (gI G, 132, .inl f)) (hn : n ≤ 12) (ha : a < n) : Met l yX5_find (wv yX5_find cX5_find 4 (some .int)) ({ frames := 2, cells := 0, slots := 0, locals := 46 } : Room) (va_Pc [.ref (gad G 5), .ref (gad G 1), .int (nI a)] (fun U => Hw G c U U.heap)) (vp_Si (fun r => r = rfi rf f rn a)) 0 0 (fun _ => False) := by
  refine en (by decide +kernel) (by first | exact Nat.le_of_ble_eq_true rfl | decide) ?_
  intro p e s m below meth cd ls hx hb hr hml hown hts hlocks hnm hw hl
  have hl : lv_has ls 4 [(0, .ref (gad G 5)), (1, .ref (gad G 1)), (2, .int (nI a))] := hl
  refine lv_iconst (v := 0) hx hb dX5_find_0 (by decide) ?_
  refine lv_istore_n (lv' := [(3, _), (0, _), (1, _), (2, _)]) hx hb dX5_find_1 rfl hl (by decide) rfl (fun ls hl => ?_)
  have L2 : ∀ (N : Nat) (i : Nat), (i + N = rn) → (∀ q, q < i → rsm rf f q a = false) → ∀ ls : Array Slot, lv_has ls 4 [(3, .int (nI i)), (2, .int (nI a)), (1, .ref (gad G 1)), (0, .ref (gad G 5))] → W p l e ({ frames := 2, cells := 0, slots := 0, locals := 46 } : Room) s m (([.ref (gad G 5), .ref (gad G 1), .int (nI a)] : List Value).toArray) below meth cd s.heap [] 0 0 (MQ below (vp_Si (fun r => r = rfi rf f rn a)) ([.ref (gad G 5), .ref (gad G 1), .int (nI a)] : List Value).toArray s 0 0 (fun _ => False)) (F0 m 2 ls []) := by
    intro N
    induction N with
    | zero =>
      intro i  hN hA ls hl
      obtain rfl : i = rn := by omega
      refine lv_iload_n hx hb dX5_find_2 rfl (lv_at hl 0 rfl) ?_
      refine lv_aload_n hx hb dX5_find_3 rfl (lv_at hl 3 rfl) ?_
      refine w_get (C := RX5) (T := TX5) (N := 3) 2 hx hb hts inX5 hown hw (by decide) r1 rfl (by decide) (hts _ tw_52) rfl dX5_find_4 ?_
      refine lv_icmp_ge (tgt := 28) hx hb dX5_find_7 (by decide) (fun c7 => ?_) (fun q => absurd (Int32.le_refl _) q)
      refine lv_iconst (v := (-1)) hx hb dX5_find_28 (by decide) ?_
      exact re_S hx hb hr hlocks (rfl) dX5_find_29 ((fstU_n _ hA).symm)
    | succ N ih =>
      intro i  hN hA ls hl
      refine lv_iload_n hx hb dX5_find_2 rfl (lv_at hl 0 rfl) ?_
      refine lv_aload_n hx hb dX5_find_3 rfl (lv_at hl 3 rfl) ?_
      refine w_get (C := RX5) (T := TX5) (N := 3) 2 hx hb hts inX5 hown hw (by decide) r1 rfl (by decide) (hts _ tw_52) rfl dX5_find_4 ?_
      refine lv_icmp_ge (tgt := 28) hx hb dX5_find_7 (by decide) (fun q => absurd q (nI_ge (by omega) (by omega))) (fun c7 => ?_)
      refine lv_aload_n hx hb dX5_find_10 rfl (lv_at hl 3 rfl) ?_
      refine lv_iload_n hx hb dX5_find_11 rfl (lv_at hl 0 rfl) ?_
      refine lv_aload_n hx hb dX5_find_12 rfl (lv_at hl 2 rfl) ?_
      refine lv_iload_n hx hb dX5_find_13 rfl (lv_at hl 1 rfl) ?_
      refine cSe (rV (As := [_, _, _]) ⟨hx, hb, hml, hown, hts⟩ hw (k_X5_saysSame l r1 r2 r3 hrn h1 h2 hn ha (by omega)) (cv_X5_saysSame hts tw_539 rfl rfl ⟨Nat.le_of_ble_eq_true rfl, Nat.le_of_ble_eq_true rfl⟩) (by decide) r1 rfl rfl hl.1 rfl (by first | exact Nat.le_of_ble_eq_true rfl | decide) dX5_find_14 ⟨Nat.zero_le _, Nat.zero_le _⟩) ?_
      refine zb_eq (tgt := 22) hx hb dX5_find_17 (by decide) (fun c17 => ?_) (fun c17 => ?_)
      · refine lv_iinc (v := nI (i + 1)) (lv' := [(3, _), (2, _), (1, _), (0, _)]) hx hb dX5_find_22 hl (k := 0) rfl (inc1 i) (by decide) rfl (fun ls hl => ?_)
        refine lv_goto (tgt := 2) hx hb dX5_find_25 (by decide) ?_
        exact ih (i + 1) (by omega) (lt_s hA c17) ls (lv_sub hl [0, 1, 2, 3] rfl)
      · refine lv_iload_n hx hb dX5_find_20 rfl (lv_at hl 0 rfl) ?_
        exact re_S hx hb hr hlocks (rfl) dX5_find_21 (by rw [rfi, fstU_s (by omega) hA c17 rn (by omega)])
  exact L2 rn 0 (by omega) lt_0 ls (lv_sub hl [0, 3, 2, 1] rfl)
set_option maxHeartbeats 4000000 in
set_option maxRecDepth 100000 in
theorem k_X5_timesAt (l : Launch) {G : GT} {c : Nat → va_E} {rn : Nat} {rf rt : Nat → Int32} (r1 : c 5 = .inr (4, [.ref (gad G 6), .ref (gad G 7), .int (nI rn)])) (r2 : c 6 = .inl (gI G, 128, .inl rf)) (r3 : c 7 = .inl (gI G, 16, .inl rt)) (hrn : rn ≤ 16) {x : Int32} : Met l yX5_timesAt (wv yX5_timesAt cX5_timesAt 2 (some .int)) ({ frames := 0, cells := 0, slots := 0, locals := 0 } : Room) (va_Pc [.ref (gad G 5), .int x] (fun U => Hw G c U U.heap)) (vp_Si (fun r => r = tat rt rn x)) 0 0 (fun _ => False) := by
  refine en (by decide +kernel) (by first | exact Nat.le_of_ble_eq_true rfl | decide) ?_
  intro p e s m below meth cd ls hx hb hr hml hown hts hlocks hnm hw hl
  have hl : lv_has ls 2 [(0, .ref (gad G 5)), (1, .int x)] := hl
  refine lv_iload_n hx hb dX5_timesAt_0 rfl (lv_at hl 1 rfl) ?_
  refine lv_if_lt (tgt := 21) hx hb dX5_timesAt_1 (by decide) (fun c1 => ?_) (fun c1 => ?_)
  · refine lv_iconst (v := 0) hx hb dX5_timesAt_21 (by decide) ?_
    exact re_S hx hb hr hlocks (rfl) dX5_timesAt_22 (by rw [tat, if_pos c1])
  · refine lv_iload_n hx hb dX5_timesAt_4 rfl (lv_at hl 1 rfl) ?_
    refine lv_aload_n hx hb dX5_timesAt_5 rfl (lv_at hl 0 rfl) ?_
    refine w_get (C := RX5) (T := TX5) (N := 3) 2 hx hb hts inX5 hown hw (by decide) r1 rfl (by decide) (hts _ tw_52) rfl dX5_timesAt_6 ?_
    refine lv_icmp_ge (tgt := 21) hx hb dX5_timesAt_9 (by decide) (fun c9 => ?_) (fun c9 => ?_)
    · refine lv_iconst (v := 0) hx hb dX5_timesAt_21 (by decide) ?_
      exact re_S hx hb hr hlocks (rfl) dX5_timesAt_22 (by rw [tat, if_neg c1, if_neg (Int32.not_lt.mpr c9)])
    · obtain ⟨v, hv, rfl⟩ : ∃ v : Nat, v < rn ∧ x = nI v := by
        rcases pk_ix x (n := rn) (by omega) with z | z | z
        · exact absurd z c1
        · exact absurd z c9
        · exact z
      refine lv_aload_n hx hb dX5_timesAt_12 rfl (lv_at hl 0 rfl) ?_
      refine w_get (C := RX5) (T := TX5) (N := 3) 1 hx hb hts inX5 hown hw (by decide) r1 rfl (by decide) (hts _ tw_51) rfl dX5_timesAt_13 ?_
      refine lv_iload_n hx hb dX5_timesAt_16 rfl (lv_at hl 1 rfl) ?_
      refine w_ialdN (j := v) hx hb hw (by decide) r3 (rfl) (by omega) (by decide) dX5_timesAt_17 ?_
      refine lv_goto (tgt := 22) hx hb dX5_timesAt_18 (by decide) ?_
      exact re_S hx hb hr hlocks (rfl) dX5_timesAt_22 (by rw [tat, if_neg c1, if_pos (nI_lt hv (by omega)), nI_clamp (by omega)])
set_option maxHeartbeats 4000000 in
set_option maxRecDepth 100000 in
theorem k_X5_keep (l : Launch) {G : GT} {c : Nat → va_E} {rn : Nat} {rf rt : Nat → Int32} (r1 : c 5 = .inr (4, [.ref (gad G 6), .ref (gad G 7), .int (nI rn)])) (r2 : c 6 = .inl (gI G, 128, .inl rf)) (r3 : c 7 = .inl (gI G, 16, .inl rt)) (hrn : rn ≤ 16) {n a : Nat} {f : Nat → Int32} (h1 : c 1 = .inr (0, [.ref (gad G 2), .int (nI n)])) (h2 : c 2 = .inl (gI G, 132, .inl f)) (hn : n ≤ 12) (ha : a < n) : Met l yX5_keep (wv yX5_keep cX5_keep 5 (some .int)) ({ frames := 3, cells := 0, slots := 0, locals := 69 } : Room) (va_Pc [.ref (gad G 5), .ref (gad G 1), .int (nI a)] (fun U => Hw G c U U.heap)) (va_Qi (fun r (c9 : Nat → va_E) => (rfi rf f rn a = -1 ∧ rn = 16 ∧ r = -4 ∧ c9 = c) ∨ (rfi rf f rn a = -1 ∧ rn < 16 ∧ r = nI rn ∧ c9 = va_up (va_up (va_up c 5 (.inr (4, [.ref (gad G 6), .ref (gad G 7), .int (nI (rn + 1))]))) 6 (.inl (gI G, 128, .inl (cpF rf f rn a 8)))) 7 (.inl (gI G, 16, .inl (upd rt rn 1)))) ∨ (∃ q, q < rn ∧ rfi rf f rn a = nI q ∧ r = nI q ∧ c9 = va_up c 7 (.inl (gI G, 16, .inl (upd rt q (rt q + 1)))))) (fun c9 t => Hw G c9 t t.heap) (gA G)) 0 0 (gA G) := by
  refine en (by decide +kernel) (by first | exact Nat.le_of_ble_eq_true rfl | decide) ?_
  intro p e s m below meth cd ls hx hb hr hml hown hts hlocks hnm hw hl
  have hl : lv_has ls 5 [(0, .ref (gad G 5)), (1, .ref (gad G 1)), (2, .int (nI a))] := hl
  have hX : Sw G s s.heap := hw.2.2.2.2.2
  have hS : va_S (gA G) s.heap s.heap [] := va_S.rf
  obtain ⟨H, hH⟩ : ∃ wz9, wz9 = s.heap := ⟨_, rfl⟩
  obtain ⟨locs, hlocs⟩ : ∃ wz9 : List Loc, wz9 = [] := ⟨_, rfl⟩
  have hw : Hw G c s H := by rw [hH]; exact hw
  have hS : va_S (gA G) s.heap H locs := by rw [hH, hlocs]; exact hS
  suffices hgo : W p l e ({ frames := 3, cells := 0, slots := 0, locals := 69 } : Room) s m (([.ref (gad G 5), .ref (gad G 1), .int (nI a)] : List Value).toArray) below meth cd H locs 0 0 (MQ below (va_Qi (fun r (c9 : Nat → va_E) => (rfi rf f rn a = -1 ∧ rn = 16 ∧ r = -4 ∧ c9 = c) ∨ (rfi rf f rn a = -1 ∧ rn < 16 ∧ r = nI rn ∧ c9 = va_up (va_up (va_up c 5 (.inr (4, [.ref (gad G 6), .ref (gad G 7), .int (nI (rn + 1))]))) 6 (.inl (gI G, 128, .inl (cpF rf f rn a 8)))) 7 (.inl (gI G, 16, .inl (upd rt rn 1)))) ∨ (∃ q, q < rn ∧ rfi rf f rn a = nI q ∧ r = nI q ∧ c9 = va_up c 7 (.inl (gI G, 16, .inl (upd rt q (rt q + 1)))))) (fun c9 t => Hw G c9 t t.heap) (gA G)) ([.ref (gad G 5), .ref (gad G 1), .int (nI a)] : List Value).toArray s 0 0 (gA G)) (F0 m 0 ls []) by rw [hH, hlocs] at hgo; exact hgo
  refine lv_aload_n hx hb dX5_keep_0 rfl (lv_at hl 0 rfl) ?_
  refine lv_aload_n hx hb dX5_keep_1 rfl (lv_at hl 1 rfl) ?_
  refine lv_iload_n hx hb dX5_keep_2 rfl (lv_at hl 2 rfl) ?_
  refine cSe (rV (As := [_, _]) ⟨hx, hb, hml, hown, hts⟩ hw (k_X5_find l r1 r2 r3 hrn h1 h2 hn ha) (cv_X5_find hts tw_535 rfl rfl ⟨Nat.le_of_ble_eq_true rfl, Nat.le_of_ble_eq_true rfl⟩) (by decide) r1 rfl rfl hl.1 rfl (by first | exact Nat.le_of_ble_eq_true rfl | decide) dX5_keep_3 ⟨Nat.zero_le _, Nat.zero_le _⟩) ?_
  refine lv_istore_n (lv' := [(3, _), (0, _), (1, _), (2, _)]) hx hb dX5_keep_6 rfl hl (by decide) rfl (fun ls hl => ?_)
  refine lv_iload_n hx hb dX5_keep_7 rfl (lv_at hl 0 rfl) ?_
  refine lv_iconst (v := (-1)) hx hb dX5_keep_8 (by decide) ?_
  refine lv_icmp_ne (tgt := 81) hx hb dX5_keep_9 (by decide) (fun c9 => ?_) (fun c9 => ?_)
  · obtain ⟨q, hq1, hq2⟩ : ∃ q, q < rn ∧ rfi rf f rn a = nI q := by
      rcases fstU_or (P := fun pl => rsm rf f pl a) rn (by omega) with z | z
      · exact absurd z c9
      · exact z
    rw [hq2] at hl
    refine lv_aload_n hx hb dX5_keep_81 rfl (lv_at hl 1 rfl) ?_
    refine w_get (C := RX5) (T := TX5) (N := 3) 1 hx hb hts inX5 hown hw (by decide) r1 rfl (by decide) (hts _ tw_51) rfl dX5_keep_82 ?_
    refine lv_iload_n hx hb dX5_keep_85 rfl (lv_at hl 0 rfl) ?_
    refine lv_dup2_11 hx hb dX5_keep_86 rfl rfl ?_
    refine w_ialdN (j := q) hx hb hw (by decide) r3 (rfl) (by omega) (by decide) dX5_keep_87 ?_
    refine lv_iconst (v := 1) hx hb dX5_keep_88 (by decide) ?_
    refine lv_iadd hx hb dX5_keep_89 ?_
    refine w_iastN (j := q) (x := rt q + 1) hx hb hw hX hS (by decide) r3 (rfl) (by omega) (by decide) dX5_keep_90 (fun H locs hw hS => ?_)
    obtain ⟨w1, ew1⟩ : ∃ wz9 : Nat → va_E, wz9 = va_up c 7 (.inl (gI G, 16, .inl (upd rt (q) (rt q + 1)))) := ⟨_, rfl⟩
    have hw : Hw G w1 s H := by rw [ew1]; exact hw
    have r1_1 : w1 5 = .inr (4, [.ref (gad G 6), .ref (gad G 7), .int (nI rn)]) := by rw [ew1]; exact vu_e (by decide) r1
    have r2_1 : w1 6 = .inl (gI G, 128, .inl rf) := by rw [ew1]; exact vu_e (by decide) r2
    have r3_1 : w1 7 = .inl (gI G, 16, .inl (upd rt (q) (rt q + 1))) := by rw [ew1]; exact vu_s
    have h1_1 : w1 1 = .inr (0, [.ref (gad G 2), .int (nI n)]) := by rw [ew1]; exact vu_e (by decide) h1
    have h2_1 : w1 2 = .inl (gI G, 132, .inl f) := by rw [ew1]; exact vu_e (by decide) h2
    refine lv_iload_n hx hb dX5_keep_91 rfl (lv_at hl 0 rfl) ?_
    exact re_Q hx hb hr hlocks (rfl) hw hS dX5_keep_92 (Or.inr (Or.inr ⟨q, hq1, hq2, rfl, ew1⟩))
  · refine lv_aload_n hx hb dX5_keep_12 rfl (lv_at hl 1 rfl) ?_
    refine w_get (C := RX5) (T := TX5) (N := 3) 2 hx hb hts inX5 hown hw (by decide) r1 rfl (by decide) (hts _ tw_52) rfl dX5_keep_13 ?_
    refine lv_bipush (v := 16) hx hb dX5_keep_16 (by decide) ?_
    refine lv_icmp_lt (tgt := 24) hx hb dX5_keep_18 (by decide) (fun c18 => ?_) (fun c18 => ?_)
    · have hlt : rn < 16 := (nI_ltI (b := 16) (by omega) (by omega)).mp c18
      have hm1 : rfi rf f rn a = -1 := c9
      refine lv_aload_n hx hb dX5_keep_24 rfl (lv_at hl 1 rfl) ?_
      refine w_get (C := RX5) (T := TX5) (N := 3) 2 hx hb hts inX5 hown hw (by decide) r1 rfl (by decide) (hts _ tw_52) rfl dX5_keep_25 ?_
      refine lv_istore_n (lv' := [(3, _), (0, _), (1, _), (2, _)]) hx hb dX5_keep_28 rfl hl (by decide) rfl (fun ls hl => ?_)
      refine lv_aload_n hx hb dX5_keep_29 rfl (lv_at hl 1 rfl) ?_
      refine lv_dup hx hb dX5_keep_30 rfl ?_
      refine w_get (C := RX5) (T := TX5) (N := 3) 2 hx hb hts inX5 hown hw (by decide) r1 rfl (by decide) (hts _ tw_52) rfl dX5_keep_31 ?_
      refine lv_iconst (v := 1) hx hb dX5_keep_34 (by decide) ?_
      refine lv_iadd hx hb dX5_keep_35 ?_
      refine tp (y := nI (rn + 1)) (nI_1 rn) ?_
      refine w_put (C := RX5) (T := TX5) (N := 3) (v := .int (nI (rn + 1))) 2 tyX5 hx hb hts inX5 tyX5_ok nmX5 hown hw hX hS (by decide) r1 rfl (by decide) (hts _ tw_52) rfl rfl (rfl) (rfl) (Nat.le_of_ble_eq_true rfl) dX5_keep_36 (fun H locs hw hS => ?_)
      obtain ⟨w3, ew3⟩ : ∃ wz9 : Nat → va_E, wz9 = va_up c 5 (.inr (4, [.ref (gad G 6), .ref (gad G 7), .int (nI (rn + 1))])) := ⟨_, rfl⟩
      have hw : Hw G w3 s H := by rw [ew3]; exact hw
      have r1_3 : w3 5 = .inr (4, [.ref (gad G 6), .ref (gad G 7), .int (nI (rn + 1))]) := by rw [ew3]; exact vu_s
      have r2_3 : w3 6 = .inl (gI G, 128, .inl rf) := by rw [ew3]; exact vu_e (by decide) r2
      have r3_3 : w3 7 = .inl (gI G, 16, .inl rt) := by rw [ew3]; exact vu_e (by decide) r3
      have h1_3 : w3 1 = .inr (0, [.ref (gad G 2), .int (nI n)]) := by rw [ew3]; exact vu_e (by decide) h1
      have h2_3 : w3 2 = .inl (gI G, 132, .inl f) := by rw [ew3]; exact vu_e (by decide) h2
      refine lv_aload_n hx hb dX5_keep_39 rfl (lv_at hl 1 rfl) ?_
      refine w_get (C := RX5) (T := TX5) (N := 3) 1 hx hb hts inX5 hown hw (by decide) r1_3 rfl (by decide) (hts _ tw_51) rfl dX5_keep_40 ?_
      refine lv_iload_n hx hb dX5_keep_43 rfl (lv_at hl 0 rfl) ?_
      refine lv_iconst (v := 0) hx hb dX5_keep_44 (by decide) ?_
      refine w_iastN (j := rn) (x := 0) hx hb hw hX hS (by decide) r3_3 (rfl) (by omega) (by decide) dX5_keep_45 (fun H locs hw hS => ?_)
      obtain ⟨w4, ew4⟩ : ∃ wz9 : Nat → va_E, wz9 = va_up w3 7 (.inl (gI G, 16, .inl (upd rt (rn) (0)))) := ⟨_, rfl⟩
      have hw : Hw G w4 s H := by rw [ew4]; exact hw
      have r1_4 : w4 5 = .inr (4, [.ref (gad G 6), .ref (gad G 7), .int (nI (rn + 1))]) := by rw [ew4]; exact vu_e (by decide) r1_3
      have r2_4 : w4 6 = .inl (gI G, 128, .inl rf) := by rw [ew4]; exact vu_e (by decide) r2_3
      have r3_4 : w4 7 = .inl (gI G, 16, .inl (upd rt (rn) (0))) := by rw [ew4]; exact vu_s
      have h1_4 : w4 1 = .inr (0, [.ref (gad G 2), .int (nI n)]) := by rw [ew4]; exact vu_e (by decide) h1_3
      have h2_4 : w4 2 = .inl (gI G, 132, .inl f) := by rw [ew4]; exact vu_e (by decide) h2_3
      refine lv_iconst (v := 0) hx hb dX5_keep_46 (by decide) ?_
      refine lv_istore (lv' := [(4, _), (3, _), (0, _), (1, _), (2, _)]) hx hb dX5_keep_47 hl (by decide) rfl (fun ls hl => ?_)
      have L49 : ∀ (N : Nat) (i : Nat) (fz : Nat → Int32), (i + N = 8) → (fz = cpF rf f rn a i) → ∀ (c0 : Nat → va_E) (H : Heap) (locs : List Loc), (c0 = va_up (va_up (va_up c 5 (.inr (4, [.ref (gad G 6), .ref (gad G 7), .int (nI (rn + 1))]))) 6 (.inl (gI G, 128, .inl fz))) 7 (.inl (gI G, 16, .inl (upd rt rn 0)))) → Hw G c0 s H → va_S (gA G) s.heap H locs → ∀ ls : Array Slot, lv_has ls 5 [(4, .int (nI i)), (3, .int (nI rn)), (2, .int (nI a)), (1, .ref (gad G 1)), (0, .ref (gad G 5))] → W p l e ({ frames := 3, cells := 0, slots := 0, locals := 69 } : Room) s m (([.ref (gad G 5), .ref (gad G 1), .int (nI a)] : List Value).toArray) below meth cd H locs 0 0 (MQ below (va_Qi (fun r (c9 : Nat → va_E) => (rfi rf f rn a = -1 ∧ rn = 16 ∧ r = -4 ∧ c9 = c) ∨ (rfi rf f rn a = -1 ∧ rn < 16 ∧ r = nI rn ∧ c9 = va_up (va_up (va_up c 5 (.inr (4, [.ref (gad G 6), .ref (gad G 7), .int (nI (rn + 1))]))) 6 (.inl (gI G, 128, .inl (cpF rf f rn a 8)))) 7 (.inl (gI G, 16, .inl (upd rt rn 1)))) ∨ (∃ q, q < rn ∧ rfi rf f rn a = nI q ∧ r = nI q ∧ c9 = va_up c 7 (.inl (gI G, 16, .inl (upd rt q (rt q + 1)))))) (fun c9 t => Hw G c9 t t.heap) (gA G)) ([.ref (gad G 5), .ref (gad G 1), .int (nI a)] : List Value).toArray s 0 0 (gA G)) (F0 m 49 ls []) := by
        intro N
        induction N with
        | zero =>
          intro i  fz  hN hz c0 H locs e0 hw hS ls hl
          obtain rfl : i = 8 := by omega
          have r1 : c0 5 = .inr (4, [.ref (gad G 6), .ref (gad G 7), .int (nI (rn + 1))]) := by rw [e0]; exact vu_e (by decide) (vu_e (by decide) vu_s)
          have r2 : c0 6 = .inl (gI G, 128, .inl fz) := by rw [e0]; exact vu_e (by decide) vu_s
          have r3 : c0 7 = .inl (gI G, 16, .inl (upd rt rn 0)) := by rw [e0]; exact vu_s
          have h1 : c0 1 = .inr (0, [.ref (gad G 2), .int (nI n)]) := by rw [e0]; exact vu_e (by decide) (vu_e (by decide) (vu_e (by decide) h1))
          have h2 : c0 2 = .inl (gI G, 132, .inl f) := by rw [e0]; exact vu_e (by decide) (vu_e (by decide) (vu_e (by decide) h2))
          refine lv_iload hx hb dX5_keep_49 (lv_at hl 0 rfl) ?_
          refine lv_bipush (v := 8) hx hb dX5_keep_51 (by decide) ?_
          refine lv_icmp_ge (tgt := 81) hx hb dX5_keep_53 (by decide) (fun c53 => ?_) (fun q => absurd (by decide) q)
          skip
          refine lv_aload_n hx hb dX5_keep_81 rfl (lv_at hl 4 rfl) ?_
          refine w_get (C := RX5) (T := TX5) (N := 3) 1 hx hb hts inX5 hown hw (by decide) r1 rfl (by decide) (hts _ tw_51) rfl dX5_keep_82 ?_
          refine lv_iload_n hx hb dX5_keep_85 rfl (lv_at hl 1 rfl) ?_
          refine lv_dup2_11 hx hb dX5_keep_86 rfl rfl ?_
          refine w_ialdN (j := rn) hx hb hw (by decide) r3 (rfl) (by omega) (by decide) dX5_keep_87 ?_
          refine lv_iconst (v := 1) hx hb dX5_keep_88 (by decide) ?_
          refine lv_iadd hx hb dX5_keep_89 ?_
          refine w_iastN (j := rn) (x := upd rt rn 0 rn + 1) hx hb hw hX hS (by decide) r3 (rfl) (by omega) (by decide) dX5_keep_90 (fun H locs hw hS => ?_)
          obtain ⟨w5, ew5⟩ : ∃ wz9 : Nat → va_E, wz9 = va_up c0 7 (.inl (gI G, 16, .inl (upd (upd rt (rn) (0)) (rn) (upd rt rn 0 rn + 1)))) := ⟨_, rfl⟩
          have hw : Hw G w5 s H := by rw [ew5]; exact hw
          have r1_5 : w5 5 = .inr (4, [.ref (gad G 6), .ref (gad G 7), .int (nI (rn + 1))]) := by rw [ew5]; exact vu_e (by decide) r1
          have r2_5 : w5 6 = .inl (gI G, 128, .inl fz) := by rw [ew5]; exact vu_e (by decide) r2
          have r3_5 : w5 7 = .inl (gI G, 16, .inl (upd (upd rt (rn) (0)) (rn) (upd rt rn 0 rn + 1))) := by rw [ew5]; exact vu_s
          have h1_5 : w5 1 = .inr (0, [.ref (gad G 2), .int (nI n)]) := by rw [ew5]; exact vu_e (by decide) h1
          have h2_5 : w5 2 = .inl (gI G, 132, .inl f) := by rw [ew5]; exact vu_e (by decide) h2
          refine lv_iload_n hx hb dX5_keep_91 rfl (lv_at hl 1 rfl) ?_
          exact re_Q hx hb hr hlocks (rfl) hw hS dX5_keep_92 (Or.inr (Or.inl ⟨hm1, hlt, rfl, by rw [ew5, e0, hz, up_up, upd_2]⟩))
        | succ N ih =>
          intro i  fz  hN hz c0 H locs e0 hw hS ls hl
          have r1 : c0 5 = .inr (4, [.ref (gad G 6), .ref (gad G 7), .int (nI (rn + 1))]) := by rw [e0]; exact vu_e (by decide) (vu_e (by decide) vu_s)
          have r2 : c0 6 = .inl (gI G, 128, .inl fz) := by rw [e0]; exact vu_e (by decide) vu_s
          have r3 : c0 7 = .inl (gI G, 16, .inl (upd rt rn 0)) := by rw [e0]; exact vu_s
          have h1 : c0 1 = .inr (0, [.ref (gad G 2), .int (nI n)]) := by rw [e0]; exact vu_e (by decide) (vu_e (by decide) (vu_e (by decide) h1))
          have h2 : c0 2 = .inl (gI G, 132, .inl f) := by rw [e0]; exact vu_e (by decide) (vu_e (by decide) (vu_e (by decide) h2))
          refine lv_iload hx hb dX5_keep_49 (lv_at hl 0 rfl) ?_
          refine lv_bipush (v := 8) hx hb dX5_keep_51 (by decide) ?_
          refine lv_icmp_ge (tgt := 81) hx hb dX5_keep_53 (by decide) (fun q => absurd q (nI_ge (b := 8) (by omega) (by omega))) (fun c53 => ?_)
          refine lv_aload_n hx hb dX5_keep_56 rfl (lv_at hl 4 rfl) ?_
          refine w_get (C := RX5) (T := TX5) (N := 3) 0 hx hb hts inX5 hown hw (by decide) r1 rfl (by decide) (hts _ tw_50) rfl dX5_keep_57 ?_
          refine lv_iload_n hx hb dX5_keep_60 rfl (lv_at hl 1 rfl) ?_
          refine lv_bipush (v := 8) hx hb dX5_keep_61 (by decide) ?_
          refine lv_imul hx hb dX5_keep_63 ?_
          refine lv_iload hx hb dX5_keep_64 (lv_at hl 0 rfl) ?_
          refine lv_iadd hx hb dX5_keep_66 ?_
          refine lv_aload_n hx hb dX5_keep_67 rfl (lv_at hl 3 rfl) ?_
          refine lv_iload_n hx hb dX5_keep_68 rfl (lv_at hl 2 rfl) ?_
          refine lv_iload hx hb dX5_keep_69 (lv_at hl 0 rfl) ?_
          refine cSe (rV (As := [_, _]) ⟨hx, hb, hml, hown, hts⟩ hw (k_X1_at l (by decide) (by decide) h1 h2 hn (ix a i) (by omega)) (cv_X1_at hts tw_543 rfl rfl ⟨Nat.le_of_ble_eq_true rfl, Nat.le_of_ble_eq_true rfl⟩) (by decide) h1 rfl rfl hl.1 rfl (by first | exact Nat.le_of_ble_eq_true rfl | decide) dX5_keep_71 ⟨Nat.zero_le _, Nat.zero_le _⟩) ?_
          refine w_iastN (j := rn * 8 + i) (x := f (a * 11 + i)) hx hb hw hX hS (by decide) r2 (ix8 rn i) (by omega) (by decide) dX5_keep_74 (fun H locs hw hS => ?_)
          obtain ⟨w6, ew6⟩ : ∃ wz9 : Nat → va_E, wz9 = va_up c0 6 (.inl (gI G, 128, .inl (upd fz (rn * 8 + i) (f (a * 11 + i))))) := ⟨_, rfl⟩
          have hw : Hw G w6 s H := by rw [ew6]; exact hw
          have r1_6 : w6 5 = .inr (4, [.ref (gad G 6), .ref (gad G 7), .int (nI (rn + 1))]) := by rw [ew6]; exact vu_e (by decide) r1
          have r2_6 : w6 6 = .inl (gI G, 128, .inl (upd fz (rn * 8 + i) (f (a * 11 + i)))) := by rw [ew6]; exact vu_s
          have r3_6 : w6 7 = .inl (gI G, 16, .inl (upd rt (rn) (0))) := by rw [ew6]; exact vu_e (by decide) r3
          have h1_6 : w6 1 = .inr (0, [.ref (gad G 2), .int (nI n)]) := by rw [ew6]; exact vu_e (by decide) h1
          have h2_6 : w6 2 = .inl (gI G, 132, .inl f) := by rw [ew6]; exact vu_e (by decide) h2
          refine lv_iinc (v := nI (i + 1)) (lv' := [(4, _), (3, _), (2, _), (1, _), (0, _)]) hx hb dX5_keep_75 hl (k := 0) rfl (inc1 i) (by decide) rfl (fun ls hl => ?_)
          refine lv_goto (tgt := 49) hx hb dX5_keep_78 (by decide) ?_
          exact ih (i + 1) (cpF rf f rn a (i + 1)) (by omega) rfl _ H locs (by rw [ew6, e0, up_sw (by decide : (7 : Nat) ≠ 6), up_up, hz, cpF_s]) hw hS ls (lv_sub hl [0, 1, 2, 3, 4] rfl)
      exact L49 8 0 rf (by omega) (cpF_0 rf f rn a).symm _ H locs (by rw [ew4, ew3]; congr 1; exact (up_id (by rw [vu_n (by decide)]; exact r2)).symm) hw hS ls (lv_sub hl [0, 1, 4, 3, 2] rfl)
    · have hm1 : rfi rf f rn a = -1 := c9
      have h16 : rn = 16 := by have := (nI_leI (a := 16) (b := rn) (by omega) (by omega)).mp (Int32.not_lt.mp c18); omega
      refine lv_bipush (v := (-4)) hx hb dX5_keep_21 (by decide) ?_
      exact re_Q hx hb hr hlocks (rfl) hw hS dX5_keep_23 (Or.inl ⟨hm1, h16, rfl, rfl⟩)
set_option maxHeartbeats 4000000 in
set_option maxRecDepth 100000 in
theorem k_X5_become_i (l : Launch) {G : GT} {c : Nat → va_E} {n n2 : Nat} {f f2 t t2 : Nat → Int32} (h1 : c 29 = .inr (4, [.ref (gad G 30), .ref (gad G 31), .int (nI n)])) (h2 : c 30 = .inl (gI G, 128, .inl f)) (h3 : c 31 = .inl (gI G, 16, .inl t)) (g1 : c 5 = .inr (4, [.ref (gad G 6), .ref (gad G 7), .int (nI n2)])) (g2 : c 6 = .inl (gI G, 128, .inl f2)) (g3 : c 7 = .inl (gI G, 16, .inl t2)) : Met l yX5_become (wv yX5_become cX5_become 2 none) ({ frames := 1, cells := 0, slots := 0, locals := 26 } : Room) (va_Pc [.ref (gad G 29), .ref (gad G 5)] (fun U => Hw G c U U.heap)) (va_Qv (fun c9 : Nat → va_E => c9 = va_up (va_up (va_up c 29 (.inr (4, [.ref (gad G 30), .ref (gad G 31), .int (nI n2)]))) 30 (.inl (gI G, 128, .inl f2))) 31 (.inl (gI G, 16, .inl t2))) (fun c9 t => Hw G c9 t t.heap) (gA G)) 0 0 (gA G) := by
  refine en (by decide +kernel) (by first | exact Nat.le_of_ble_eq_true rfl | decide) ?_
  intro p e s m below meth cd ls hx hb hr hml hown hts hlocks hnm hw hl
  have hl : lv_has ls 2 [(0, .ref (gad G 29)), (1, .ref (gad G 5))] := hl
  have hX : Sw G s s.heap := hw.2.2.2.2.2
  have hS : va_S (gA G) s.heap s.heap [] := va_S.rf
  obtain ⟨H, hH⟩ : ∃ wz9, wz9 = s.heap := ⟨_, rfl⟩
  obtain ⟨locs, hlocs⟩ : ∃ wz9 : List Loc, wz9 = [] := ⟨_, rfl⟩
  have hw : Hw G c s H := by rw [hH]; exact hw
  have hS : va_S (gA G) s.heap H locs := by rw [hH, hlocs]; exact hS
  suffices hgo : W p l e ({ frames := 1, cells := 0, slots := 0, locals := 26 } : Room) s m (([.ref (gad G 29), .ref (gad G 5)] : List Value).toArray) below meth cd H locs 0 0 (MQ below (va_Qv (fun c9 : Nat → va_E => c9 = va_up (va_up (va_up c 29 (.inr (4, [.ref (gad G 30), .ref (gad G 31), .int (nI n2)]))) 30 (.inl (gI G, 128, .inl f2))) 31 (.inl (gI G, 16, .inl t2))) (fun c9 t => Hw G c9 t t.heap) (gA G)) ([.ref (gad G 29), .ref (gad G 5)] : List Value).toArray s 0 0 (gA G)) (F0 m 0 ls []) by rw [hH, hlocs] at hgo; exact hgo
  refine lv_aload_n hx hb dX5_become_0 rfl (lv_at hl 0 rfl) ?_
  refine lv_aload_n hx hb dX5_become_1 rfl (lv_at hl 1 rfl) ?_
  refine w_get (C := RX5) (T := TX5) (N := 3) 2 hx hb hts inX5 hown hw (by decide) g1 rfl (by decide) (hts _ tw_52) rfl dX5_become_2 ?_
  refine w_put (C := RX5) (T := TX5) (N := 3) (v := .int (nI n2)) 2 tyX5 hx hb hts inX5 tyX5_ok nmX5 hown hw hX hS (by decide) h1 rfl (by decide) (hts _ tw_52) rfl rfl (rfl) (rfl) (Nat.le_of_ble_eq_true rfl) dX5_become_5 (fun H locs hw hS => ?_)
  obtain ⟨w2, ew2⟩ : ∃ wz9 : Nat → va_E, wz9 = va_up c 29 (.inr (4, [.ref (gad G 30), .ref (gad G 31), .int (nI n2)])) := ⟨_, rfl⟩
  have hw : Hw G w2 s H := by rw [ew2]; exact hw
  have h1_2 : w2 29 = .inr (4, [.ref (gad G 30), .ref (gad G 31), .int (nI n2)]) := by rw [ew2]; exact vu_s
  have h2_2 : w2 30 = .inl (gI G, 128, .inl f) := by rw [ew2]; exact vu_e (by decide) h2
  have h3_2 : w2 31 = .inl (gI G, 16, .inl t) := by rw [ew2]; exact vu_e (by decide) h3
  have g1_2 : w2 5 = .inr (4, [.ref (gad G 6), .ref (gad G 7), .int (nI n2)]) := by rw [ew2]; exact vu_e (by decide) g1
  have g2_2 : w2 6 = .inl (gI G, 128, .inl f2) := by rw [ew2]; exact vu_e (by decide) g2
  have g3_2 : w2 7 = .inl (gI G, 16, .inl t2) := by rw [ew2]; exact vu_e (by decide) g3
  refine lv_aload_n hx hb dX5_become_8 rfl (lv_at hl 1 rfl) ?_
  refine w_get (C := RX5) (T := TX5) (N := 3) 0 hx hb hts inX5 hown hw (by decide) g1_2 rfl (by decide) (hts _ tw_50) rfl dX5_become_9 ?_
  refine lv_iconst (v := 0) hx hb dX5_become_12 (by decide) ?_
  refine lv_aload_n hx hb dX5_become_13 rfl (lv_at hl 0 rfl) ?_
  refine w_get (C := RX5) (T := TX5) (N := 3) 0 hx hb hts inX5 hown hw (by decide) h1_2 rfl (by decide) (hts _ tw_50) rfl dX5_become_14 ?_
  refine lv_iconst (v := 0) hx hb dX5_become_17 (by decide) ?_
  refine lv_aload_n hx hb dX5_become_18 rfl (lv_at hl 0 rfl) ?_
  refine w_get (C := RX5) (T := TX5) (N := 3) 0 hx hb hts inX5 hown hw (by decide) h1_2 rfl (by decide) (hts _ tw_50) rfl dX5_become_19 ?_
  refine w_alen hx hb hw (by decide) h2_2 dX5_become_22 ?_
  refine w_copy (a := 0) (b := 0) (q := 128) hx hb (hml.trans hl.1.symm) hown (hts _ tw_864) (hts _ tw_491) (hts _ tw_490) (hts _ tw_17) hw hX hS (by decide) g2_2 (by decide) h2_2 (rfl) (rfl) (rfl) (by decide) (by decide) (by decide) (by decide) (Nat.le_of_ble_eq_true rfl) (by first | exact Nat.le_of_ble_eq_true rfl | decide) dX5_become_23 (fun H locs hw hS => ?_)
  obtain ⟨w3, ew3⟩ : ∃ wz9 : Nat → va_E, wz9 = va_up w2 30 (.inl (gI G, 128, .inl (va_cpy f2 f (0) (0) (128)))) := ⟨_, rfl⟩
  have hw : Hw G w3 s H := by rw [ew3]; exact hw
  have h1_3 : w3 29 = .inr (4, [.ref (gad G 30), .ref (gad G 31), .int (nI n2)]) := by rw [ew3]; exact vu_e (by decide) h1_2
  have h2_3 : w3 30 = .inl (gI G, 128, .inl (va_cpy f2 f (0) (0) (128))) := by rw [ew3]; exact vu_s
  have h3_3 : w3 31 = .inl (gI G, 16, .inl t) := by rw [ew3]; exact vu_e (by decide) h3_2
  have g1_3 : w3 5 = .inr (4, [.ref (gad G 6), .ref (gad G 7), .int (nI n2)]) := by rw [ew3]; exact vu_e (by decide) g1_2
  have g2_3 : w3 6 = .inl (gI G, 128, .inl f2) := by rw [ew3]; exact vu_e (by decide) g2_2
  have g3_3 : w3 7 = .inl (gI G, 16, .inl t2) := by rw [ew3]; exact vu_e (by decide) g3_2
  refine lv_aload_n hx hb dX5_become_26 rfl (lv_at hl 1 rfl) ?_
  refine w_get (C := RX5) (T := TX5) (N := 3) 1 hx hb hts inX5 hown hw (by decide) g1_3 rfl (by decide) (hts _ tw_51) rfl dX5_become_27 ?_
  refine lv_iconst (v := 0) hx hb dX5_become_30 (by decide) ?_
  refine lv_aload_n hx hb dX5_become_31 rfl (lv_at hl 0 rfl) ?_
  refine w_get (C := RX5) (T := TX5) (N := 3) 1 hx hb hts inX5 hown hw (by decide) h1_3 rfl (by decide) (hts _ tw_51) rfl dX5_become_32 ?_
  refine lv_iconst (v := 0) hx hb dX5_become_35 (by decide) ?_
  refine lv_aload_n hx hb dX5_become_36 rfl (lv_at hl 0 rfl) ?_
  refine w_get (C := RX5) (T := TX5) (N := 3) 1 hx hb hts inX5 hown hw (by decide) h1_3 rfl (by decide) (hts _ tw_51) rfl dX5_become_37 ?_
  refine w_alen hx hb hw (by decide) h3_3 dX5_become_40 ?_
  refine w_copy (a := 0) (b := 0) (q := 16) hx hb (hml.trans hl.1.symm) hown (hts _ tw_864) (hts _ tw_491) (hts _ tw_490) (hts _ tw_17) hw hX hS (by decide) g3_3 (by decide) h3_3 (rfl) (rfl) (rfl) (by decide) (by decide) (by decide) (by decide) (Nat.le_of_ble_eq_true rfl) (by first | exact Nat.le_of_ble_eq_true rfl | decide) dX5_become_41 (fun H locs hw hS => ?_)
  obtain ⟨w4, ew4⟩ : ∃ wz9 : Nat → va_E, wz9 = va_up w3 31 (.inl (gI G, 16, .inl (va_cpy t2 t (0) (0) (16)))) := ⟨_, rfl⟩
  have hw : Hw G w4 s H := by rw [ew4]; exact hw
  have h1_4 : w4 29 = .inr (4, [.ref (gad G 30), .ref (gad G 31), .int (nI n2)]) := by rw [ew4]; exact vu_e (by decide) h1_3
  have h2_4 : w4 30 = .inl (gI G, 128, .inl (va_cpy f2 f (0) (0) (128))) := by rw [ew4]; exact vu_e (by decide) h2_3
  have h3_4 : w4 31 = .inl (gI G, 16, .inl (va_cpy t2 t (0) (0) (16))) := by rw [ew4]; exact vu_s
  have g1_4 : w4 5 = .inr (4, [.ref (gad G 6), .ref (gad G 7), .int (nI n2)]) := by rw [ew4]; exact vu_e (by decide) g1_3
  have g2_4 : w4 6 = .inl (gI G, 128, .inl f2) := by rw [ew4]; exact vu_e (by decide) g2_3
  have g3_4 : w4 7 = .inl (gI G, 16, .inl t2) := by rw [ew4]; exact vu_e (by decide) g3_3
  have hw := Hw.ext (c := w3) (j := 31) (n := 16) (g := va_cpy t2 t 0 0 16) (g' := t2) (by decide) (by rw [← ew4]; exact hw) (fun q hq => sb_cpy0 hq)
  rw [ew3, up_sw (by decide : (30 : Nat) ≠ 31)] at hw
  have hw := Hw.ext (j := 30) (g' := f2) (by decide) hw (fun q hq => sb_cpy0 hq)
  exact re_V hx hb hr hlocks hw hS dX5_become_44 (by rw [ew2, up_sw (by decide : (31 : Nat) ≠ 30)])
set_option maxHeartbeats 4000000 in
set_option maxRecDepth 100000 in
theorem k_X5_become_b (l : Launch) {G : GT} {c : Nat → va_E} {n n2 : Nat} {f f2 t t2 : Nat → Int32} (h1 : c 5 = .inr (4, [.ref (gad G 6), .ref (gad G 7), .int (nI n)])) (h2 : c 6 = .inl (gI G, 128, .inl f)) (h3 : c 7 = .inl (gI G, 16, .inl t)) (g1 : c 29 = .inr (4, [.ref (gad G 30), .ref (gad G 31), .int (nI n2)])) (g2 : c 30 = .inl (gI G, 128, .inl f2)) (g3 : c 31 = .inl (gI G, 16, .inl t2)) : Met l yX5_become (wv yX5_become cX5_become 2 none) ({ frames := 1, cells := 0, slots := 0, locals := 26 } : Room) (va_Pc [.ref (gad G 5), .ref (gad G 29)] (fun U => Hw G c U U.heap)) (va_Qv (fun c9 : Nat → va_E => c9 = va_up (va_up (va_up c 5 (.inr (4, [.ref (gad G 6), .ref (gad G 7), .int (nI n2)]))) 6 (.inl (gI G, 128, .inl f2))) 7 (.inl (gI G, 16, .inl t2))) (fun c9 t => Hw G c9 t t.heap) (gA G)) 0 0 (gA G) := by
  refine en (by decide +kernel) (by first | exact Nat.le_of_ble_eq_true rfl | decide) ?_
  intro p e s m below meth cd ls hx hb hr hml hown hts hlocks hnm hw hl
  have hl : lv_has ls 2 [(0, .ref (gad G 5)), (1, .ref (gad G 29))] := hl
  have hX : Sw G s s.heap := hw.2.2.2.2.2
  have hS : va_S (gA G) s.heap s.heap [] := va_S.rf
  obtain ⟨H, hH⟩ : ∃ wz9, wz9 = s.heap := ⟨_, rfl⟩
  obtain ⟨locs, hlocs⟩ : ∃ wz9 : List Loc, wz9 = [] := ⟨_, rfl⟩
  have hw : Hw G c s H := by rw [hH]; exact hw
  have hS : va_S (gA G) s.heap H locs := by rw [hH, hlocs]; exact hS
  suffices hgo : W p l e ({ frames := 1, cells := 0, slots := 0, locals := 26 } : Room) s m (([.ref (gad G 5), .ref (gad G 29)] : List Value).toArray) below meth cd H locs 0 0 (MQ below (va_Qv (fun c9 : Nat → va_E => c9 = va_up (va_up (va_up c 5 (.inr (4, [.ref (gad G 6), .ref (gad G 7), .int (nI n2)]))) 6 (.inl (gI G, 128, .inl f2))) 7 (.inl (gI G, 16, .inl t2))) (fun c9 t => Hw G c9 t t.heap) (gA G)) ([.ref (gad G 5), .ref (gad G 29)] : List Value).toArray s 0 0 (gA G)) (F0 m 0 ls []) by rw [hH, hlocs] at hgo; exact hgo
  refine lv_aload_n hx hb dX5_become_0 rfl (lv_at hl 0 rfl) ?_
  refine lv_aload_n hx hb dX5_become_1 rfl (lv_at hl 1 rfl) ?_
  refine w_get (C := RX5) (T := TX5) (N := 3) 2 hx hb hts inX5 hown hw (by decide) g1 rfl (by decide) (hts _ tw_52) rfl dX5_become_2 ?_
  refine w_put (C := RX5) (T := TX5) (N := 3) (v := .int (nI n2)) 2 tyX5 hx hb hts inX5 tyX5_ok nmX5 hown hw hX hS (by decide) h1 rfl (by decide) (hts _ tw_52) rfl rfl (rfl) (rfl) (Nat.le_of_ble_eq_true rfl) dX5_become_5 (fun H locs hw hS => ?_)
  obtain ⟨w2, ew2⟩ : ∃ wz9 : Nat → va_E, wz9 = va_up c 5 (.inr (4, [.ref (gad G 6), .ref (gad G 7), .int (nI n2)])) := ⟨_, rfl⟩
  have hw : Hw G w2 s H := by rw [ew2]; exact hw
  have h1_2 : w2 5 = .inr (4, [.ref (gad G 6), .ref (gad G 7), .int (nI n2)]) := by rw [ew2]; exact vu_s
  have h2_2 : w2 6 = .inl (gI G, 128, .inl f) := by rw [ew2]; exact vu_e (by decide) h2
  have h3_2 : w2 7 = .inl (gI G, 16, .inl t) := by rw [ew2]; exact vu_e (by decide) h3
  have g1_2 : w2 29 = .inr (4, [.ref (gad G 30), .ref (gad G 31), .int (nI n2)]) := by rw [ew2]; exact vu_e (by decide) g1
  have g2_2 : w2 30 = .inl (gI G, 128, .inl f2) := by rw [ew2]; exact vu_e (by decide) g2
  have g3_2 : w2 31 = .inl (gI G, 16, .inl t2) := by rw [ew2]; exact vu_e (by decide) g3
  refine lv_aload_n hx hb dX5_become_8 rfl (lv_at hl 1 rfl) ?_
  refine w_get (C := RX5) (T := TX5) (N := 3) 0 hx hb hts inX5 hown hw (by decide) g1_2 rfl (by decide) (hts _ tw_50) rfl dX5_become_9 ?_
  refine lv_iconst (v := 0) hx hb dX5_become_12 (by decide) ?_
  refine lv_aload_n hx hb dX5_become_13 rfl (lv_at hl 0 rfl) ?_
  refine w_get (C := RX5) (T := TX5) (N := 3) 0 hx hb hts inX5 hown hw (by decide) h1_2 rfl (by decide) (hts _ tw_50) rfl dX5_become_14 ?_
  refine lv_iconst (v := 0) hx hb dX5_become_17 (by decide) ?_
  refine lv_aload_n hx hb dX5_become_18 rfl (lv_at hl 0 rfl) ?_
  refine w_get (C := RX5) (T := TX5) (N := 3) 0 hx hb hts inX5 hown hw (by decide) h1_2 rfl (by decide) (hts _ tw_50) rfl dX5_become_19 ?_
  refine w_alen hx hb hw (by decide) h2_2 dX5_become_22 ?_
  refine w_copy (a := 0) (b := 0) (q := 128) hx hb (hml.trans hl.1.symm) hown (hts _ tw_864) (hts _ tw_491) (hts _ tw_490) (hts _ tw_17) hw hX hS (by decide) g2_2 (by decide) h2_2 (rfl) (rfl) (rfl) (by decide) (by decide) (by decide) (by decide) (Nat.le_of_ble_eq_true rfl) (by first | exact Nat.le_of_ble_eq_true rfl | decide) dX5_become_23 (fun H locs hw hS => ?_)
  obtain ⟨w3, ew3⟩ : ∃ wz9 : Nat → va_E, wz9 = va_up w2 6 (.inl (gI G, 128, .inl (va_cpy f2 f (0) (0) (128)))) := ⟨_, rfl⟩
  have hw : Hw G w3 s H := by rw [ew3]; exact hw
  have h1_3 : w3 5 = .inr (4, [.ref (gad G 6), .ref (gad G 7), .int (nI n2)]) := by rw [ew3]; exact vu_e (by decide) h1_2
  have h2_3 : w3 6 = .inl (gI G, 128, .inl (va_cpy f2 f (0) (0) (128))) := by rw [ew3]; exact vu_s
  have h3_3 : w3 7 = .inl (gI G, 16, .inl t) := by rw [ew3]; exact vu_e (by decide) h3_2
  have g1_3 : w3 29 = .inr (4, [.ref (gad G 30), .ref (gad G 31), .int (nI n2)]) := by rw [ew3]; exact vu_e (by decide) g1_2
  have g2_3 : w3 30 = .inl (gI G, 128, .inl f2) := by rw [ew3]; exact vu_e (by decide) g2_2
  have g3_3 : w3 31 = .inl (gI G, 16, .inl t2) := by rw [ew3]; exact vu_e (by decide) g3_2
  refine lv_aload_n hx hb dX5_become_26 rfl (lv_at hl 1 rfl) ?_
  refine w_get (C := RX5) (T := TX5) (N := 3) 1 hx hb hts inX5 hown hw (by decide) g1_3 rfl (by decide) (hts _ tw_51) rfl dX5_become_27 ?_
  refine lv_iconst (v := 0) hx hb dX5_become_30 (by decide) ?_
  refine lv_aload_n hx hb dX5_become_31 rfl (lv_at hl 0 rfl) ?_
  refine w_get (C := RX5) (T := TX5) (N := 3) 1 hx hb hts inX5 hown hw (by decide) h1_3 rfl (by decide) (hts _ tw_51) rfl dX5_become_32 ?_
  refine lv_iconst (v := 0) hx hb dX5_become_35 (by decide) ?_
  refine lv_aload_n hx hb dX5_become_36 rfl (lv_at hl 0 rfl) ?_
  refine w_get (C := RX5) (T := TX5) (N := 3) 1 hx hb hts inX5 hown hw (by decide) h1_3 rfl (by decide) (hts _ tw_51) rfl dX5_become_37 ?_
  refine w_alen hx hb hw (by decide) h3_3 dX5_become_40 ?_
  refine w_copy (a := 0) (b := 0) (q := 16) hx hb (hml.trans hl.1.symm) hown (hts _ tw_864) (hts _ tw_491) (hts _ tw_490) (hts _ tw_17) hw hX hS (by decide) g3_3 (by decide) h3_3 (rfl) (rfl) (rfl) (by decide) (by decide) (by decide) (by decide) (Nat.le_of_ble_eq_true rfl) (by first | exact Nat.le_of_ble_eq_true rfl | decide) dX5_become_41 (fun H locs hw hS => ?_)
  obtain ⟨w4, ew4⟩ : ∃ wz9 : Nat → va_E, wz9 = va_up w3 7 (.inl (gI G, 16, .inl (va_cpy t2 t (0) (0) (16)))) := ⟨_, rfl⟩
  have hw : Hw G w4 s H := by rw [ew4]; exact hw
  have h1_4 : w4 5 = .inr (4, [.ref (gad G 6), .ref (gad G 7), .int (nI n2)]) := by rw [ew4]; exact vu_e (by decide) h1_3
  have h2_4 : w4 6 = .inl (gI G, 128, .inl (va_cpy f2 f (0) (0) (128))) := by rw [ew4]; exact vu_e (by decide) h2_3
  have h3_4 : w4 7 = .inl (gI G, 16, .inl (va_cpy t2 t (0) (0) (16))) := by rw [ew4]; exact vu_s
  have g1_4 : w4 29 = .inr (4, [.ref (gad G 30), .ref (gad G 31), .int (nI n2)]) := by rw [ew4]; exact vu_e (by decide) g1_3
  have g2_4 : w4 30 = .inl (gI G, 128, .inl f2) := by rw [ew4]; exact vu_e (by decide) g2_3
  have g3_4 : w4 31 = .inl (gI G, 16, .inl t2) := by rw [ew4]; exact vu_e (by decide) g3_3
  have hw := Hw.ext (c := w3) (j := 7) (n := 16) (g := va_cpy t2 t 0 0 16) (g' := t2) (by decide) (by rw [← ew4]; exact hw) (fun q hq => sb_cpy0 hq)
  rw [ew3, up_sw (by decide : (6 : Nat) ≠ 7)] at hw
  have hw := Hw.ext (j := 6) (g' := f2) (by decide) hw (fun q hq => sb_cpy0 hq)
  exact re_V hx hb hr hlocks hw hS dX5_become_44 (by rw [ew2, up_sw (by decide : (7 : Nat) ≠ 6)])
set_option maxHeartbeats 4000000 in
set_option maxRecDepth 100000 in
theorem k_X6_isMissing (l : Launch) {G : GT} {c : Nat → va_E} {k j sn : Nat} {so : Int32} {g : Nat → Int32} (hk : k < 45) (hj : j < 45) (s1 : c k = .inr (5, [.ref (gad G j), .int so, .int (nI sn)])) (s2 : c j = .inl (gI G, 40, .inl g)) (hsn : sn ≤ 40) : Met l yX6_isMissing (wv yX6_isMissing cX6_isMissing 1 (some .boolean)) ({ frames := 0, cells := 0, slots := 0, locals := 0 } : Room) (va_Pc [.ref (gad G k)] (fun U => Hw G c U U.heap)) (vp_Si (fun r => r = bi (decide (so = -1)))) 0 0 (fun _ => False) := by
  refine en (by decide +kernel) (by first | exact Nat.le_of_ble_eq_true rfl | decide) ?_
  intro p e s m below meth cd ls hx hb hr hml hown hts hlocks hnm hw hl
  have hl : lv_has ls 1 [(0, .ref (gad G k))] := hl
  refine lv_aload_n hx hb dX6_isMissing_0 rfl (lv_at hl 0 rfl) ?_
  refine w_get (C := RX6) (T := TX6) (N := 3) 1 hx hb hts inX6 hown hw hk s1 rfl (by decide) (hts _ tw_143) rfl dX6_isMissing_1 ?_
  refine lv_iconst (v := (-1)) hx hb dX6_isMissing_4 (by decide) ?_
  refine lv_icmp_ne (tgt := 12) hx hb dX6_isMissing_5 (by decide) (fun c5 => ?_) (fun c5 => ?_)
  · refine lv_iconst (v := 0) hx hb dX6_isMissing_12 (by decide) ?_
    exact re_S hx hb hr hlocks (rfl) dX6_isMissing_13 (by simp [bi, c5])
  · refine lv_iconst (v := 1) hx hb dX6_isMissing_8 (by decide) ?_
    refine lv_goto (tgt := 13) hx hb dX6_isMissing_9 (by decide) ?_
    exact re_S hx hb hr hlocks (rfl) dX6_isMissing_13 (by simp [bi, c5])
set_option maxHeartbeats 4000000 in
set_option maxRecDepth 100000 in
theorem k_X6_sort (l : Launch) {G : GT} {c : Nat → va_E} {k j sn : Nat} {so : Int32} {g : Nat → Int32} (hk : k < 45) (hj : j < 45) (s1 : c k = .inr (5, [.ref (gad G j), .int so, .int (nI sn)])) (s2 : c j = .inl (gI G, 40, .inl g)) (hsn : sn ≤ 40) : Met l yX6_sort (wv yX6_sort cX6_sort 1 (some .int)) ({ frames := 0, cells := 0, slots := 0, locals := 0 } : Room) (va_Pc [.ref (gad G k)] (fun U => Hw G c U U.heap)) (vp_Si (fun r => r = so)) 0 0 (fun _ => False) := by
  refine en (by decide +kernel) (by first | exact Nat.le_of_ble_eq_true rfl | decide) ?_
  intro p e s m below meth cd ls hx hb hr hml hown hts hlocks hnm hw hl
  have hl : lv_has ls 1 [(0, .ref (gad G k))] := hl
  refine lv_aload_n hx hb dX6_sort_0 rfl (lv_at hl 0 rfl) ?_
  refine w_get (C := RX6) (T := TX6) (N := 3) 1 hx hb hts inX6 hown hw hk s1 rfl (by decide) (hts _ tw_143) rfl dX6_sort_1 ?_
  exact re_S hx hb hr hlocks (rfl) dX6_sort_4 (rfl)
set_option maxHeartbeats 4000000 in
set_option maxRecDepth 100000 in
theorem k_X6_size (l : Launch) {G : GT} {c : Nat → va_E} {k j sn : Nat} {so : Int32} {g : Nat → Int32} (hk : k < 45) (hj : j < 45) (s1 : c k = .inr (5, [.ref (gad G j), .int so, .int (nI sn)])) (s2 : c j = .inl (gI G, 40, .inl g)) (hsn : sn ≤ 40) : Met l yX6_size (wv yX6_size cX6_size 1 (some .int)) ({ frames := 0, cells := 0, slots := 0, locals := 0 } : Room) (va_Pc [.ref (gad G k)] (fun U => Hw G c U U.heap)) (vp_Si (fun r => r = nI sn)) 0 0 (fun _ => False) := by
  refine en (by decide +kernel) (by first | exact Nat.le_of_ble_eq_true rfl | decide) ?_
  intro p e s m below meth cd ls hx hb hr hml hown hts hlocks hnm hw hl
  have hl : lv_has ls 1 [(0, .ref (gad G k))] := hl
  refine lv_aload_n hx hb dX6_size_0 rfl (lv_at hl 0 rfl) ?_
  refine w_get (C := RX6) (T := TX6) (N := 3) 2 hx hb hts inX6 hown hw hk s1 rfl (by decide) (hts _ tw_144) rfl dX6_size_1 ?_
  exact re_S hx hb hr hlocks (rfl) dX6_size_4 (rfl)
set_option maxHeartbeats 4000000 in
set_option maxRecDepth 100000 in
theorem k_X6_lose (l : Launch) {G : GT} {c : Nat → va_E} {k j sn : Nat} {so : Int32} {g : Nat → Int32} (hk : k < 45) (hj : j < 45) (s1 : c k = .inr (5, [.ref (gad G j), .int so, .int (nI sn)])) (s2 : c j = .inl (gI G, 40, .inl g)) (hsn : sn ≤ 40) : Met l yX6_lose (wv yX6_lose cX6_lose 1 none) ({ frames := 0, cells := 0, slots := 0, locals := 0 } : Room) (va_Pc [.ref (gad G k)] (fun U => Hw G c U U.heap)) (va_Qv (fun c9 : Nat → va_E => c9 = va_up c k (.inr (5, [.ref (gad G j), .int (-1), .int (nI 0)]))) (fun c9 t => Hw G c9 t t.heap) (gA G)) 0 0 (gA G) := by
  refine en (by decide +kernel) (by first | exact Nat.le_of_ble_eq_true rfl | decide) ?_
  intro p e s m below meth cd ls hx hb hr hml hown hts hlocks hnm hw hl
  have hl : lv_has ls 1 [(0, .ref (gad G k))] := hl
  have hX : Sw G s s.heap := hw.2.2.2.2.2
  have hS : va_S (gA G) s.heap s.heap [] := va_S.rf
  obtain ⟨H, hH⟩ : ∃ wz9, wz9 = s.heap := ⟨_, rfl⟩
  obtain ⟨locs, hlocs⟩ : ∃ wz9 : List Loc, wz9 = [] := ⟨_, rfl⟩
  have hw : Hw G c s H := by rw [hH]; exact hw
  have hS : va_S (gA G) s.heap H locs := by rw [hH, hlocs]; exact hS
  suffices hgo : W p l e ({ frames := 0, cells := 0, slots := 0, locals := 0 } : Room) s m (([.ref (gad G k)] : List Value).toArray) below meth cd H locs 0 0 (MQ below (va_Qv (fun c9 : Nat → va_E => c9 = va_up c k (.inr (5, [.ref (gad G j), .int (-1), .int (nI 0)]))) (fun c9 t => Hw G c9 t t.heap) (gA G)) ([.ref (gad G k)] : List Value).toArray s 0 0 (gA G)) (F0 m 0 ls []) by rw [hH, hlocs] at hgo; exact hgo
  refine lv_aload_n hx hb dX6_lose_0 rfl (lv_at hl 0 rfl) ?_
  refine lv_iconst (v := (-1)) hx hb dX6_lose_1 (by decide) ?_
  refine w_put (C := RX6) (T := TX6) (N := 3) (v := .int (-1)) 1 tyX6 hx hb hts inX6 tyX6_ok nmX6 hown hw hX hS hk s1 rfl (by decide) (hts _ tw_143) rfl rfl (rfl) (rfl) (Nat.le_of_ble_eq_true rfl) dX6_lose_2 (fun H locs hw hS => ?_)
  obtain ⟨w2, ew2⟩ : ∃ wz9 : Nat → va_E, wz9 = va_up c k (.inr (5, [.ref (gad G j), .int (-1), .int (nI sn)])) := ⟨_, rfl⟩
  have hw : Hw G w2 s H := by rw [ew2]; exact hw
  have s1_2 : w2 k = .inr (5, [.ref (gad G j), .int (-1), .int (nI sn)]) := by rw [ew2]; exact vu_s
  have s2_2 : w2 j = .inl (gI G, 40, .inl g) := by rw [ew2]; exact vu_e (Ne.symm (ne_oa s1 s2)) s2
  refine lv_aload_n hx hb dX6_lose_5 rfl (lv_at hl 0 rfl) ?_
  refine lv_iconst (v := 0) hx hb dX6_lose_6 (by decide) ?_
  refine w_put (C := RX6) (T := TX6) (N := 3) (v := .int (nI 0)) 2 tyX6 hx hb hts inX6 tyX6_ok nmX6 hown hw hX hS hk s1_2 rfl (by decide) (hts _ tw_144) rfl rfl (rfl) (rfl) (Nat.le_of_ble_eq_true rfl) dX6_lose_7 (fun H locs hw hS => ?_)
  obtain ⟨w4, ew4⟩ : ∃ wz9 : Nat → va_E, wz9 = va_up w2 k (.inr (5, [.ref (gad G j), .int (-1), .int (nI 0)])) := ⟨_, rfl⟩
  have hw : Hw G w4 s H := by rw [ew4]; exact hw
  have s1_4 : w4 k = .inr (5, [.ref (gad G j), .int (-1), .int (nI 0)]) := by rw [ew4]; exact vu_s
  have s2_4 : w4 j = .inl (gI G, 40, .inl g) := by rw [ew4]; exact vu_e (Ne.symm (ne_oa s1 s2)) s2_2
  exact re_V hx hb hr hlocks hw hS dX6_lose_10 (by rw [ew4, ew2, up_up])
set_option maxHeartbeats 4000000 in
set_option maxRecDepth 100000 in
theorem k_X6_put (l : Launch) {G : GT} {c : Nat → va_E} {k j sn : Nat} {so : Int32} {g : Nat → Int32} (hk : k < 45) (hj : j < 45) (s1 : c k = .inr (5, [.ref (gad G j), .int so, .int (nI sn)])) (s2 : c j = .inl (gI G, 40, .inl g)) (hsn : sn ≤ 40) {i : Nat} {v : Int32} (hi : i < 40) : Met l yX6_put (wv yX6_put cX6_put 3 none) ({ frames := 0, cells := 0, slots := 0, locals := 0 } : Room) (va_Pc [.ref (gad G k), .int (nI i), .int v] (fun U => Hw G c U U.heap)) (va_Qv (fun c9 : Nat → va_E => c9 = va_up c j (.inl (gI G, 40, .inl (upd g i (if so = 1 ∧ v ≠ 0 then 1 else v))))) (fun c9 t => Hw G c9 t t.heap) (gA G)) 0 0 (gA G) := by
  refine en (by decide +kernel) (by first | exact Nat.le_of_ble_eq_true rfl | decide) ?_
  intro p e s m below meth cd ls hx hb hr hml hown hts hlocks hnm hw hl
  have hl : lv_has ls 3 [(0, .ref (gad G k)), (1, .int (nI i)), (2, .int v)] := hl
  have hX : Sw G s s.heap := hw.2.2.2.2.2
  have hS : va_S (gA G) s.heap s.heap [] := va_S.rf
  obtain ⟨H, hH⟩ : ∃ wz9, wz9 = s.heap := ⟨_, rfl⟩
  obtain ⟨locs, hlocs⟩ : ∃ wz9 : List Loc, wz9 = [] := ⟨_, rfl⟩
  have hw : Hw G c s H := by rw [hH]; exact hw
  have hS : va_S (gA G) s.heap H locs := by rw [hH, hlocs]; exact hS
  suffices hgo : W p l e ({ frames := 0, cells := 0, slots := 0, locals := 0 } : Room) s m (([.ref (gad G k), .int (nI i), .int v] : List Value).toArray) below meth cd H locs 0 0 (MQ below (va_Qv (fun c9 : Nat → va_E => c9 = va_up c j (.inl (gI G, 40, .inl (upd g i (if so = 1 ∧ v ≠ 0 then 1 else v))))) (fun c9 t => Hw G c9 t t.heap) (gA G)) ([.ref (gad G k), .int (nI i), .int v] : List Value).toArray s 0 0 (gA G)) (F0 m 0 ls []) by rw [hH, hlocs] at hgo; exact hgo
  refine lv_aload_n hx hb dX6_put_0 rfl (lv_at hl 0 rfl) ?_
  refine w_get (C := RX6) (T := TX6) (N := 3) 0 hx hb hts inX6 hown hw hk s1 rfl (by decide) (hts _ tw_142) rfl dX6_put_1 ?_
  refine lv_iload_n hx hb dX6_put_4 rfl (lv_at hl 1 rfl) ?_
  refine lv_aload_n hx hb dX6_put_5 rfl (lv_at hl 0 rfl) ?_
  refine w_get (C := RX6) (T := TX6) (N := 3) 1 hx hb hts inX6 hown hw hk s1 rfl (by decide) (hts _ tw_143) rfl dX6_put_6 ?_
  refine lv_iconst (v := 1) hx hb dX6_put_9 (by decide) ?_
  refine lv_icmp_ne (tgt := 21) hx hb dX6_put_10 (by decide) (fun c10 => ?_) (fun c10 => ?_)
  · refine lv_iload_n hx hb dX6_put_21 rfl (lv_at hl 2 rfl) ?_
    refine tp (y := if so = 1 ∧ v ≠ 0 then 1 else v) (by simp [c10]) ?_
    refine w_iastN (j := i) (x := if so = 1 ∧ v ≠ 0 then 1 else v) hx hb hw hX hS hj s2 (rfl) (hi) (by decide) dX6_put_22 (fun H locs hw hS => ?_)
    obtain ⟨w1, ew1⟩ : ∃ wz9 : Nat → va_E, wz9 = va_up c j (.inl (gI G, 40, .inl (upd g (i) (if so = 1 ∧ v ≠ 0 then 1 else v)))) := ⟨_, rfl⟩
    have hw : Hw G w1 s H := by rw [ew1]; exact hw
    have s1_1 : w1 k = .inr (5, [.ref (gad G j), .int so, .int (nI sn)]) := by rw [ew1]; exact vu_e (ne_oa s1 s2) s1
    have s2_1 : w1 j = .inl (gI G, 40, .inl (upd g (i) (if so = 1 ∧ v ≠ 0 then 1 else v))) := by rw [ew1]; exact vu_s
    exact re_V hx hb hr hlocks hw hS dX6_put_23 (ew1)
  · refine lv_iload_n hx hb dX6_put_13 rfl (lv_at hl 2 rfl) ?_
    refine lv_if_eq (tgt := 21) hx hb dX6_put_14 (by decide) (fun c14 => ?_) (fun c14 => ?_)
    · refine lv_iload_n hx hb dX6_put_21 rfl (lv_at hl 2 rfl) ?_
      refine tp (y := if so = 1 ∧ v ≠ 0 then 1 else v) (by simp [c10, c14]) ?_
      refine w_iastN (j := i) (x := if so = 1 ∧ v ≠ 0 then 1 else v) hx hb hw hX hS hj s2 (rfl) (hi) (by decide) dX6_put_22 (fun H locs hw hS => ?_)
      obtain ⟨w2, ew2⟩ : ∃ wz9 : Nat → va_E, wz9 = va_up c j (.inl (gI G, 40, .inl (upd g (i) (if so = 1 ∧ v ≠ 0 then 1 else v)))) := ⟨_, rfl⟩
      have hw : Hw G w2 s H := by rw [ew2]; exact hw
      have s1_2 : w2 k = .inr (5, [.ref (gad G j), .int so, .int (nI sn)]) := by rw [ew2]; exact vu_e (ne_oa s1 s2) s1
      have s2_2 : w2 j = .inl (gI G, 40, .inl (upd g (i) (if so = 1 ∧ v ≠ 0 then 1 else v))) := by rw [ew2]; exact vu_s
      exact re_V hx hb hr hlocks hw hS dX6_put_23 (ew2)
    · refine lv_iconst (v := 1) hx hb dX6_put_17 (by decide) ?_
      refine lv_goto (tgt := 22) hx hb dX6_put_18 (by decide) ?_
      refine tp (y := if so = 1 ∧ v ≠ 0 then 1 else v) (by simp [c10, c14]) ?_
      refine w_iastN (j := i) (x := if so = 1 ∧ v ≠ 0 then 1 else v) hx hb hw hX hS hj s2 (rfl) (hi) (by decide) dX6_put_22 (fun H locs hw hS => ?_)
      obtain ⟨w3, ew3⟩ : ∃ wz9 : Nat → va_E, wz9 = va_up c j (.inl (gI G, 40, .inl (upd g (i) (if so = 1 ∧ v ≠ 0 then 1 else v)))) := ⟨_, rfl⟩
      have hw : Hw G w3 s H := by rw [ew3]; exact hw
      have s1_3 : w3 k = .inr (5, [.ref (gad G j), .int so, .int (nI sn)]) := by rw [ew3]; exact vu_e (ne_oa s1 s2) s1
      have s2_3 : w3 j = .inl (gI G, 40, .inl (upd g (i) (if so = 1 ∧ v ≠ 0 then 1 else v))) := by rw [ew3]; exact vu_s
      exact re_V hx hb hr hlocks hw hS dX6_put_23 (ew3)
set_option maxHeartbeats 4000000 in
set_option maxRecDepth 100000 in
theorem k_X6_hasRun (l : Launch) {G : GT} {c : Nat → va_E} {k j sn : Nat} {so : Int32} {g : Nat → Int32} (hk : k < 45) (hj : j < 45) (s1 : c k = .inr (5, [.ref (gad G j), .int so, .int (nI sn)])) (s2 : c j = .inl (gI G, 40, .inl g)) (hsn : sn ≤ 40) {i n : Int32} : Met l yX6_hasRun (wv yX6_hasRun cX6_hasRun 3 (some .boolean)) ({ frames := 0, cells := 0, slots := 0, locals := 0 } : Room) (va_Pc [.ref (gad G k), .int i, .int n] (fun U => Hw G c U U.heap)) (vp_Si (fun r => r = bi (!decide (i < 0) && !decide (n < 0) && !decide (nI sn - n < i)))) 0 0 (fun _ => False) := by
  refine en (by decide +kernel) (by first | exact Nat.le_of_ble_eq_true rfl | decide) ?_
  intro p e s m below meth cd ls hx hb hr hml hown hts hlocks hnm hw hl
  have hl : lv_has ls 3 [(0, .ref (gad G k)), (1, .int i), (2, .int n)] := hl
  refine lv_iload_n hx hb dX6_hasRun_0 rfl (lv_at hl 1 rfl) ?_
  refine lv_if_lt (tgt := 22) hx hb dX6_hasRun_1 (by decide) (fun c1 => ?_) (fun c1 => ?_)
  · refine lv_iconst (v := 0) hx hb dX6_hasRun_22 (by decide) ?_
    exact re_S hx hb hr hlocks (rfl) dX6_hasRun_23 (by simp [bi, c1])
  · refine lv_iload_n hx hb dX6_hasRun_4 rfl (lv_at hl 2 rfl) ?_
    refine lv_if_lt (tgt := 22) hx hb dX6_hasRun_5 (by decide) (fun c5 => ?_) (fun c5 => ?_)
    · refine lv_iconst (v := 0) hx hb dX6_hasRun_22 (by decide) ?_
      exact re_S hx hb hr hlocks (rfl) dX6_hasRun_23 (by simp [bi, c1, c5])
    · refine lv_iload_n hx hb dX6_hasRun_8 rfl (lv_at hl 1 rfl) ?_
      refine lv_aload_n hx hb dX6_hasRun_9 rfl (lv_at hl 0 rfl) ?_
      refine w_get (C := RX6) (T := TX6) (N := 3) 2 hx hb hts inX6 hown hw hk s1 rfl (by decide) (hts _ tw_144) rfl dX6_hasRun_10 ?_
      refine lv_iload_n hx hb dX6_hasRun_13 rfl (lv_at hl 2 rfl) ?_
      refine lv_isub hx hb dX6_hasRun_14 ?_
      refine lv_icmp_gt (tgt := 22) hx hb dX6_hasRun_15 (by decide) (fun c15 => ?_) (fun c15 => ?_)
      · refine lv_iconst (v := 0) hx hb dX6_hasRun_22 (by decide) ?_
        exact re_S hx hb hr hlocks (rfl) dX6_hasRun_23 (by simp [bi, c1, c5, c15])
      · refine lv_iconst (v := 1) hx hb dX6_hasRun_18 (by decide) ?_
        refine lv_goto (tgt := 23) hx hb dX6_hasRun_19 (by decide) ?_
        exact re_S hx hb hr hlocks (rfl) dX6_hasRun_23 (by simp [bi, c1, c5, c15])
set_option maxHeartbeats 4000000 in
set_option maxRecDepth 100000 in
theorem k_X6_begin (l : Launch) {G : GT} {c : Nat → va_E} {k j sn : Nat} {so : Int32} {g : Nat → Int32} (hk : k < 45) (hj : j < 45) (s1 : c k = .inr (5, [.ref (gad G j), .int so, .int (nI sn)])) (s2 : c j = .inl (gI G, 40, .inl g)) (hsn : sn ≤ 40) {so2 : Int32} {n : Nat} (hn : n ≤ 40) : Met l yX6_begin (wv yX6_begin cX6_begin 4 none) ({ frames := 0, cells := 0, slots := 0, locals := 0 } : Room) (va_Pc [.ref (gad G k), .int so2, .int (nI n)] (fun U => Hw G c U U.heap)) (va_Qv (fun c9 : Nat → va_E => c9 = va_up (va_up c k (.inr (5, [.ref (gad G j), .int so2, .int (nI n)]))) j (.inl (gI G, 40, .inl (bgF g n)))) (fun c9 t => Hw G c9 t t.heap) (gA G)) 0 0 (gA G) := by
  refine en (by decide +kernel) (by first | exact Nat.le_of_ble_eq_true rfl | decide) ?_
  intro p e s m below meth cd ls hx hb hr hml hown hts hlocks hnm hw hl
  have hl : lv_has ls 4 [(0, .ref (gad G k)), (1, .int so2), (2, .int (nI n))] := hl
  have hX : Sw G s s.heap := hw.2.2.2.2.2
  have hS : va_S (gA G) s.heap s.heap [] := va_S.rf
  obtain ⟨H, hH⟩ : ∃ wz9, wz9 = s.heap := ⟨_, rfl⟩
  obtain ⟨locs, hlocs⟩ : ∃ wz9 : List Loc, wz9 = [] := ⟨_, rfl⟩
  have hw : Hw G c s H := by rw [hH]; exact hw
  have hS : va_S (gA G) s.heap H locs := by rw [hH, hlocs]; exact hS
  suffices hgo : W p l e ({ frames := 0, cells := 0, slots := 0, locals := 0 } : Room) s m (([.ref (gad G k), .int so2, .int (nI n)] : List Value).toArray) below meth cd H locs 0 0 (MQ below (va_Qv (fun c9 : Nat → va_E => c9 = va_up (va_up c k (.inr (5, [.ref (gad G j), .int so2, .int (nI n)]))) j (.inl (gI G, 40, .inl (bgF g n)))) (fun c9 t => Hw G c9 t t.heap) (gA G)) ([.ref (gad G k), .int so2, .int (nI n)] : List Value).toArray s 0 0 (gA G)) (F0 m 0 ls []) by rw [hH, hlocs] at hgo; exact hgo
  refine lv_aload_n hx hb dX6_begin_0 rfl (lv_at hl 0 rfl) ?_
  refine lv_iload_n hx hb dX6_begin_1 rfl (lv_at hl 1 rfl) ?_
  refine w_put (C := RX6) (T := TX6) (N := 3) (v := .int so2) 1 tyX6 hx hb hts inX6 tyX6_ok nmX6 hown hw hX hS hk s1 rfl (by decide) (hts _ tw_143) rfl rfl (rfl) (rfl) (Nat.le_of_ble_eq_true rfl) dX6_begin_2 (fun H locs hw hS => ?_)
  obtain ⟨w2, ew2⟩ : ∃ wz9 : Nat → va_E, wz9 = va_up c k (.inr (5, [.ref (gad G j), .int so2, .int (nI sn)])) := ⟨_, rfl⟩
  have hw : Hw G w2 s H := by rw [ew2]; exact hw
  have s1_2 : w2 k = .inr (5, [.ref (gad G j), .int so2, .int (nI sn)]) := by rw [ew2]; exact vu_s
  have s2_2 : w2 j = .inl (gI G, 40, .inl g) := by rw [ew2]; exact vu_e (Ne.symm (ne_oa s1 s2)) s2
  refine lv_aload_n hx hb dX6_begin_5 rfl (lv_at hl 0 rfl) ?_
  refine lv_iload_n hx hb dX6_begin_6 rfl (lv_at hl 2 rfl) ?_
  refine w_put (C := RX6) (T := TX6) (N := 3) (v := .int (nI n)) 2 tyX6 hx hb hts inX6 tyX6_ok nmX6 hown hw hX hS hk s1_2 rfl (by decide) (hts _ tw_144) rfl rfl (rfl) (rfl) (Nat.le_of_ble_eq_true rfl) dX6_begin_7 (fun H locs hw hS => ?_)
  obtain ⟨w4, ew4⟩ : ∃ wz9 : Nat → va_E, wz9 = va_up w2 k (.inr (5, [.ref (gad G j), .int so2, .int (nI n)])) := ⟨_, rfl⟩
  have hw : Hw G w4 s H := by rw [ew4]; exact hw
  have s1_4 : w4 k = .inr (5, [.ref (gad G j), .int so2, .int (nI n)]) := by rw [ew4]; exact vu_s
  have s2_4 : w4 j = .inl (gI G, 40, .inl g) := by rw [ew4]; exact vu_e (Ne.symm (ne_oa s1 s2)) s2_2
  refine lv_iconst (v := 0) hx hb dX6_begin_10 (by decide) ?_
  refine lv_istore_n (lv' := [(3, _), (0, _), (1, _), (2, _)]) hx hb dX6_begin_11 rfl hl (by decide) rfl (fun ls hl => ?_)
  have L12 : ∀ (N : Nat) (i : Nat) (fz : Nat → Int32), (i + N = n) → (fz = bgF g i) → ∀ (c0 : Nat → va_E) (H : Heap) (locs : List Loc), (c0 = va_up (va_up c k (.inr (5, [.ref (gad G j), .int so2, .int (nI n)]))) j (.inl (gI G, 40, .inl fz))) → Hw G c0 s H → va_S (gA G) s.heap H locs → ∀ ls : Array Slot, lv_has ls 4 [(3, .int (nI i)), (2, .int (nI n)), (1, .int so2), (0, .ref (gad G k))] → W p l e ({ frames := 0, cells := 0, slots := 0, locals := 0 } : Room) s m (([.ref (gad G k), .int so2, .int (nI n)] : List Value).toArray) below meth cd H locs 0 0 (MQ below (va_Qv (fun c9 : Nat → va_E => c9 = va_up (va_up c k (.inr (5, [.ref (gad G j), .int so2, .int (nI n)]))) j (.inl (gI G, 40, .inl (bgF g n)))) (fun c9 t => Hw G c9 t t.heap) (gA G)) ([.ref (gad G k), .int so2, .int (nI n)] : List Value).toArray s 0 0 (gA G)) (F0 m 12 ls []) := by
    intro N
    induction N with
    | zero =>
      intro i  fz  hN hz c0 H locs e0 hw hS ls hl
      have hin : i = n := by omega
      refine lv_iload_n hx hb dX6_begin_12 rfl (lv_at hl 0 rfl) ?_
      refine lv_iload_n hx hb dX6_begin_13 rfl (lv_at hl 1 rfl) ?_
      refine lv_icmp_ge (tgt := 30) hx hb dX6_begin_14 (by decide) (fun c14 => ?_) (fun q => absurd (nI_le (by omega) (by omega)) q)
      exact re_V hx hb hr hlocks hw hS dX6_begin_30 (by rw [e0, hz, hin])
    | succ N ih =>
      intro i  fz  hN hz c0 H locs e0 hw hS ls hl
      have hne := ne_oa s1 s2
      have s1 : c0 k = .inr (5, [.ref (gad G j), .int so2, .int (nI n)]) := by rw [e0]; exact vu_e hne vu_s
      have s2 : c0 j = .inl (gI G, 40, .inl fz) := by rw [e0]; exact vu_s
      refine lv_iload_n hx hb dX6_begin_12 rfl (lv_at hl 0 rfl) ?_
      refine lv_iload_n hx hb dX6_begin_13 rfl (lv_at hl 1 rfl) ?_
      refine lv_icmp_ge (tgt := 30) hx hb dX6_begin_14 (by decide) (fun q => absurd q (nI_ge (by omega) (by omega))) (fun c14 => ?_)
      refine lv_aload_n hx hb dX6_begin_17 rfl (lv_at hl 3 rfl) ?_
      refine w_get (C := RX6) (T := TX6) (N := 3) 0 hx hb hts inX6 hown hw hk s1 rfl (by decide) (hts _ tw_142) rfl dX6_begin_18 ?_
      refine lv_iload_n hx hb dX6_begin_21 rfl (lv_at hl 0 rfl) ?_
      refine lv_iconst (v := 0) hx hb dX6_begin_22 (by decide) ?_
      refine w_iastN (j := i) (x := 0) hx hb hw hX hS hj s2 (rfl) (by omega) (by decide) dX6_begin_23 (fun H locs hw hS => ?_)
      obtain ⟨w5, ew5⟩ : ∃ wz9 : Nat → va_E, wz9 = va_up c0 j (.inl (gI G, 40, .inl (upd fz (i) (0)))) := ⟨_, rfl⟩
      have hw : Hw G w5 s H := by rw [ew5]; exact hw
      have s1_5 : w5 k = .inr (5, [.ref (gad G j), .int so2, .int (nI n)]) := by rw [ew5]; exact vu_e (ne_oa s1 s2) s1
      have s2_5 : w5 j = .inl (gI G, 40, .inl (upd fz (i) (0))) := by rw [ew5]; exact vu_s
      refine lv_iinc (v := nI (i + 1)) (lv' := [(3, _), (2, _), (1, _), (0, _)]) hx hb dX6_begin_24 hl (k := 0) rfl (inc1 i) (by decide) rfl (fun ls hl => ?_)
      refine lv_goto (tgt := 12) hx hb dX6_begin_27 (by decide) ?_
      exact ih (i + 1) (bgF g (i + 1)) (by omega) rfl _ H locs (by rw [ew5, e0, up_up, hz, bgF_s]) hw hS ls (lv_sub hl [0, 1, 2, 3] rfl)
  exact L12 n 0 g (by omega) (bgF_0 g).symm _ H locs (by rw [ew4, ew2, up_up]; exact (up_id (by rw [vu_n (Ne.symm (ne_oa s1 s2))]; exact s2)).symm) hw hS ls (lv_sub hl [0, 3, 2, 1] rfl)
set_option maxHeartbeats 4000000 in
set_option maxRecDepth 100000 in
theorem k_X6_takeRun (l : Launch) {G : GT} {c : Nat → va_E} {k j sn : Nat} {so : Int32} {g : Nat → Int32} (hk : k < 45) (hj : j < 45) (s1 : c k = .inr (5, [.ref (gad G j), .int so, .int (nI sn)])) (s2 : c j = .inl (gI G, 40, .inl g)) (hsn : sn ≤ 40) {k2 j2 sn2 : Nat} {so2 : Int32} {g2 : Nat → Int32} (hk2 : k2 < 45) (hj2 : j2 < 45) (t1 : c k2 = .inr (5, [.ref (gad G j2), .int so2, .int (nI sn2)])) (t2 : c j2 = .inl (gI G, 40, .inl g2)) {a b q : Nat} (ha : a + q ≤ 40) (hb2 : b + q ≤ 40) : Met l yX6_takeRun (wv yX6_takeRun cX6_takeRun 5 none) ({ frames := 1, cells := 0, slots := 0, locals := 26 } : Room) (va_Pc [.ref (gad G k), .int (nI b), .ref (gad G k2), .int (nI a), .int (nI q)] (fun U => Hw G c U U.heap)) (va_Qv (fun c9 : Nat → va_E => c9 = va_up c j (.inl (gI G, 40, .inl (va_cpy g2 g a b q)))) (fun c9 t => Hw G c9 t t.heap) (gA G)) 0 0 (gA G) := by
  refine en (by decide +kernel) (by first | exact Nat.le_of_ble_eq_true rfl | decide) ?_
  intro p e s m below meth cd ls hx hb hr hml hown hts hlocks hnm hw hl
  have hl : lv_has ls 5 [(0, .ref (gad G k)), (1, .int (nI b)), (2, .ref (gad G k2)), (3, .int (nI a)), (4, .int (nI q))] := hl
  have hX : Sw G s s.heap := hw.2.2.2.2.2
  have hS : va_S (gA G) s.heap s.heap [] := va_S.rf
  obtain ⟨H, hH⟩ : ∃ wz9, wz9 = s.heap := ⟨_, rfl⟩
  obtain ⟨locs, hlocs⟩ : ∃ wz9 : List Loc, wz9 = [] := ⟨_, rfl⟩
  have hw : Hw G c s H := by rw [hH]; exact hw
  have hS : va_S (gA G) s.heap H locs := by rw [hH, hlocs]; exact hS
  suffices hgo : W p l e ({ frames := 1, cells := 0, slots := 0, locals := 26 } : Room) s m (([.ref (gad G k), .int (nI b), .ref (gad G k2), .int (nI a), .int (nI q)] : List Value).toArray) below meth cd H locs 0 0 (MQ below (va_Qv (fun c9 : Nat → va_E => c9 = va_up c j (.inl (gI G, 40, .inl (va_cpy g2 g a b q)))) (fun c9 t => Hw G c9 t t.heap) (gA G)) ([.ref (gad G k), .int (nI b), .ref (gad G k2), .int (nI a), .int (nI q)] : List Value).toArray s 0 0 (gA G)) (F0 m 0 ls []) by rw [hH, hlocs] at hgo; exact hgo
  refine lv_aload_n hx hb dX6_takeRun_0 rfl (lv_at hl 2 rfl) ?_
  refine w_get (C := RX6) (T := TX6) (N := 3) 0 hx hb hts inX6 hown hw hk2 t1 rfl (by decide) (hts _ tw_142) rfl dX6_takeRun_1 ?_
  refine lv_iload_n hx hb dX6_takeRun_4 rfl (lv_at hl 3 rfl) ?_
  refine lv_aload_n hx hb dX6_takeRun_5 rfl (lv_at hl 0 rfl) ?_
  refine w_get (C := RX6) (T := TX6) (N := 3) 0 hx hb hts inX6 hown hw hk s1 rfl (by decide) (hts _ tw_142) rfl dX6_takeRun_6 ?_
  refine lv_iload_n hx hb dX6_takeRun_9 rfl (lv_at hl 1 rfl) ?_
  refine lv_iload hx hb dX6_takeRun_10 (lv_at hl 4 rfl) ?_
  refine w_copy (a := a) (b := b) (q := q) hx hb (hml.trans hl.1.symm) hown (hts _ tw_846) (hts _ tw_491) (hts _ tw_490) (hts _ tw_17) hw hX hS hj2 t2 hj s2 (rfl) (rfl) (rfl) (ha) (hb2) (by decide) (by decide) (Nat.le_of_ble_eq_true rfl) (by first | exact Nat.le_of_ble_eq_true rfl | decide) dX6_takeRun_12 (fun H locs hw hS => ?_)
  obtain ⟨w1, ew1⟩ : ∃ wz9 : Nat → va_E, wz9 = va_up c j (.inl (gI G, 40, .inl (va_cpy g2 g (a) (b) (q)))) := ⟨_, rfl⟩
  have hw : Hw G w1 s H := by rw [ew1]; exact hw
  have s1_1 : w1 k = .inr (5, [.ref (gad G j), .int so, .int (nI sn)]) := by rw [ew1]; exact vu_e (ne_oa s1 s2) s1
  have s2_1 : w1 j = .inl (gI G, 40, .inl (va_cpy g2 g (a) (b) (q))) := by rw [ew1]; exact vu_s
  exact re_V hx hb hr hlocks hw hS dX6_takeRun_15 (ew1)
set_option maxHeartbeats 4000000 in
set_option maxRecDepth 100000 in
theorem k_X7_size (l : Launch) {G : GT} {c : Nat → va_E} {tn : Nat} {tf : Nat → Int32} (t1 : c 9 = .inr (6, [.ref (gad G 10), .int (nI tn)])) (t2 : c 10 = .inl (gI G, 120, .inl tf)) (htn : tn ≤ 120) : Met l yX7_size (wv yX7_size cX7_size 1 (some .int)) ({ frames := 0, cells := 0, slots := 0, locals := 0 } : Room) (va_Pc [.ref (gad G 9)] (fun U => Hw G c U U.heap)) (vp_Si (fun r => r = nI tn)) 0 0 (fun _ => False) := by
  refine en (by decide +kernel) (by first | exact Nat.le_of_ble_eq_true rfl | decide) ?_
  intro p e s m below meth cd ls hx hb hr hml hown hts hlocks hnm hw hl
  have hl : lv_has ls 1 [(0, .ref (gad G 9))] := hl
  refine lv_aload_n hx hb dX7_size_0 rfl (lv_at hl 0 rfl) ?_
  refine w_get (C := RX7) (T := TX7) (N := 2) 1 hx hb hts inX7 hown hw (by decide) t1 rfl (by decide) (hts _ tw_78) rfl dX7_size_1 ?_
  exact re_S hx hb hr hlocks (rfl) dX7_size_4 (rfl)
set_option maxHeartbeats 4000000 in
set_option maxRecDepth 100000 in
theorem k_X7_at (l : Launch) {G : GT} {c : Nat → va_E} {tn : Nat} {tf : Nat → Int32} (t1 : c 9 = .inr (6, [.ref (gad G 10), .int (nI tn)])) (t2 : c 10 = .inl (gI G, 120, .inl tf)) (htn : tn ≤ 120) {x : Nat} (hx9 : x < 2 ^ 31) : Met l yX7_at (wv yX7_at cX7_at 2 (some .int)) ({ frames := 0, cells := 0, slots := 0, locals := 0 } : Room) (va_Pc [.ref (gad G 9), .int (nI x)] (fun U => Hw G c U U.heap)) (vp_Si (fun r => r = tpa tf tn x)) 0 0 (fun _ => False) := by
  refine en (by decide +kernel) (by first | exact Nat.le_of_ble_eq_true rfl | decide) ?_
  intro p e s m below meth cd ls hx hb hr hml hown hts hlocks hnm hw hl
  have hl : lv_has ls 2 [(0, .ref (gad G 9)), (1, .int (nI x))] := hl
  refine lv_iload_n hx hb dX7_at_0 rfl (lv_at hl 1 rfl) ?_
  refine lv_if_lt (tgt := 21) hx hb dX7_at_1 (by decide) (fun q => absurd q (nI_pos hx9)) (fun c1 => ?_)
  refine lv_iload_n hx hb dX7_at_4 rfl (lv_at hl 1 rfl) ?_
  refine lv_aload_n hx hb dX7_at_5 rfl (lv_at hl 0 rfl) ?_
  refine w_get (C := RX7) (T := TX7) (N := 2) 1 hx hb hts inX7 hown hw (by decide) t1 rfl (by decide) (hts _ tw_78) rfl dX7_at_6 ?_
  refine lv_icmp_ge (tgt := 21) hx hb dX7_at_9 (by decide) (fun c9 => ?_) (fun c9 => ?_)
  · refine lv_iconst (v := 0) hx hb dX7_at_21 (by decide) ?_
    exact re_S hx hb hr hlocks (rfl) dX7_at_22 (by rw [tpa, if_neg (by have := (nI_leI (by omega) hx9).mp c9; omega)])
  · have hlt : x < tn := (nI_ltI hx9 (by omega)).mp (Int32.not_le.mp c9)
    refine lv_aload_n hx hb dX7_at_12 rfl (lv_at hl 0 rfl) ?_
    refine w_get (C := RX7) (T := TX7) (N := 2) 0 hx hb hts inX7 hown hw (by decide) t1 rfl (by decide) (hts _ tw_77) rfl dX7_at_13 ?_
    refine lv_iload_n hx hb dX7_at_16 rfl (lv_at hl 1 rfl) ?_
    refine w_ialdN (j := x) hx hb hw (by decide) t2 (rfl) (by omega) (by decide) dX7_at_17 ?_
    refine lv_goto (tgt := 22) hx hb dX7_at_18 (by decide) ?_
    exact re_S hx hb hr hlocks (rfl) dX7_at_22 (by rw [tpa, if_pos hlt])
set_option maxHeartbeats 4000000 in
set_option maxRecDepth 100000 in
theorem k_X7_empty (l : Launch) {G : GT} {c : Nat → va_E} {tn : Nat} {tf : Nat → Int32} (t1 : c 9 = .inr (6, [.ref (gad G 10), .int (nI tn)])) (t2 : c 10 = .inl (gI G, 120, .inl tf)) (htn : tn ≤ 120) : Met l yX7_empty (wv yX7_empty cX7_empty 1 none) ({ frames := 0, cells := 0, slots := 0, locals := 0 } : Room) (va_Pc [.ref (gad G 9)] (fun U => Hw G c U U.heap)) (va_Qv (fun c9 : Nat → va_E => c9 = va_up c 9 (.inr (6, [.ref (gad G 10), .int (nI 0)]))) (fun c9 t => Hw G c9 t t.heap) (gA G)) 0 0 (gA G) := by
  refine en (by decide +kernel) (by first | exact Nat.le_of_ble_eq_true rfl | decide) ?_
  intro p e s m below meth cd ls hx hb hr hml hown hts hlocks hnm hw hl
  have hl : lv_has ls 1 [(0, .ref (gad G 9))] := hl
  have hX : Sw G s s.heap := hw.2.2.2.2.2
  have hS : va_S (gA G) s.heap s.heap [] := va_S.rf
  obtain ⟨H, hH⟩ : ∃ wz9, wz9 = s.heap := ⟨_, rfl⟩
  obtain ⟨locs, hlocs⟩ : ∃ wz9 : List Loc, wz9 = [] := ⟨_, rfl⟩
  have hw : Hw G c s H := by rw [hH]; exact hw
  have hS : va_S (gA G) s.heap H locs := by rw [hH, hlocs]; exact hS
  suffices hgo : W p l e ({ frames := 0, cells := 0, slots := 0, locals := 0 } : Room) s m (([.ref (gad G 9)] : List Value).toArray) below meth cd H locs 0 0 (MQ below (va_Qv (fun c9 : Nat → va_E => c9 = va_up c 9 (.inr (6, [.ref (gad G 10), .int (nI 0)]))) (fun c9 t => Hw G c9 t t.heap) (gA G)) ([.ref (gad G 9)] : List Value).toArray s 0 0 (gA G)) (F0 m 0 ls []) by rw [hH, hlocs] at hgo; exact hgo
  refine lv_aload_n hx hb dX7_empty_0 rfl (lv_at hl 0 rfl) ?_
  refine lv_iconst (v := 0) hx hb dX7_empty_1 (by decide) ?_
  refine w_put (C := RX7) (T := TX7) (N := 2) (v := .int (nI 0)) 1 tyX7 hx hb hts inX7 tyX7_ok nmX7 hown hw hX hS (by decide) t1 rfl (by decide) (hts _ tw_78) rfl rfl (rfl) (rfl) (Nat.le_of_ble_eq_true rfl) dX7_empty_2 (fun H locs hw hS => ?_)
  obtain ⟨w2, ew2⟩ : ∃ wz9 : Nat → va_E, wz9 = va_up c 9 (.inr (6, [.ref (gad G 10), .int (nI 0)])) := ⟨_, rfl⟩
  have hw : Hw G w2 s H := by rw [ew2]; exact hw
  have t1_2 : w2 9 = .inr (6, [.ref (gad G 10), .int (nI 0)]) := by rw [ew2]; exact vu_s
  have t2_2 : w2 10 = .inl (gI G, 120, .inl tf) := by rw [ew2]; exact vu_e (by decide) t2
  exact re_V hx hb hr hlocks hw hS dX7_empty_5 (ew2)
set_option maxHeartbeats 4000000 in
set_option maxRecDepth 100000 in
theorem k_X7_append (l : Launch) {G : GT} {c : Nat → va_E} {tn : Nat} {tf : Nat → Int32} (t1 : c 9 = .inr (6, [.ref (gad G 10), .int (nI tn)])) (t2 : c 10 = .inl (gI G, 120, .inl tf)) (htn : tn ≤ 120) {v : Int32} (hlt : tn < 120) : Met l yX7_append (wv yX7_append cX7_append 2 none) ({ frames := 0, cells := 0, slots := 0, locals := 0 } : Room) (va_Pc [.ref (gad G 9), .int v] (fun U => Hw G c U U.heap)) (va_Qv (fun c9 : Nat → va_E => c9 = va_up (va_up c 10 (.inl (gI G, 120, .inl (upd tf tn v)))) 9 (.inr (6, [.ref (gad G 10), .int (nI (tn + 1))]))) (fun c9 t => Hw G c9 t t.heap) (gA G)) 0 0 (gA G) := by
  refine en (by decide +kernel) (by first | exact Nat.le_of_ble_eq_true rfl | decide) ?_
  intro p e s m below meth cd ls hx hb hr hml hown hts hlocks hnm hw hl
  have hl : lv_has ls 2 [(0, .ref (gad G 9)), (1, .int v)] := hl
  have hX : Sw G s s.heap := hw.2.2.2.2.2
  have hS : va_S (gA G) s.heap s.heap [] := va_S.rf
  obtain ⟨H, hH⟩ : ∃ wz9, wz9 = s.heap := ⟨_, rfl⟩
  obtain ⟨locs, hlocs⟩ : ∃ wz9 : List Loc, wz9 = [] := ⟨_, rfl⟩
  have hw : Hw G c s H := by rw [hH]; exact hw
  have hS : va_S (gA G) s.heap H locs := by rw [hH, hlocs]; exact hS
  suffices hgo : W p l e ({ frames := 0, cells := 0, slots := 0, locals := 0 } : Room) s m (([.ref (gad G 9), .int v] : List Value).toArray) below meth cd H locs 0 0 (MQ below (va_Qv (fun c9 : Nat → va_E => c9 = va_up (va_up c 10 (.inl (gI G, 120, .inl (upd tf tn v)))) 9 (.inr (6, [.ref (gad G 10), .int (nI (tn + 1))]))) (fun c9 t => Hw G c9 t t.heap) (gA G)) ([.ref (gad G 9), .int v] : List Value).toArray s 0 0 (gA G)) (F0 m 0 ls []) by rw [hH, hlocs] at hgo; exact hgo
  refine lv_aload_n hx hb dX7_append_0 rfl (lv_at hl 0 rfl) ?_
  refine w_get (C := RX7) (T := TX7) (N := 2) 1 hx hb hts inX7 hown hw (by decide) t1 rfl (by decide) (hts _ tw_78) rfl dX7_append_1 ?_
  refine lv_bipush (v := 120) hx hb dX7_append_4 (by decide) ?_
  refine lv_icmp_lt (tgt := 10) hx hb dX7_append_6 (by decide) (fun c6 => ?_) (fun q => absurd (nI_lt (b := 120) hlt (by omega)) q)
  refine lv_aload_n hx hb dX7_append_10 rfl (lv_at hl 0 rfl) ?_
  refine w_get (C := RX7) (T := TX7) (N := 2) 0 hx hb hts inX7 hown hw (by decide) t1 rfl (by decide) (hts _ tw_77) rfl dX7_append_11 ?_
  refine lv_aload_n hx hb dX7_append_14 rfl (lv_at hl 0 rfl) ?_
  refine w_get (C := RX7) (T := TX7) (N := 2) 1 hx hb hts inX7 hown hw (by decide) t1 rfl (by decide) (hts _ tw_78) rfl dX7_append_15 ?_
  refine lv_iload_n hx hb dX7_append_18 rfl (lv_at hl 1 rfl) ?_
  refine w_iastN (j := tn) (x := v) hx hb hw hX hS (by decide) t2 (rfl) (hlt) (by decide) dX7_append_19 (fun H locs hw hS => ?_)
  obtain ⟨w1, ew1⟩ : ∃ wz9 : Nat → va_E, wz9 = va_up c 10 (.inl (gI G, 120, .inl (upd tf (tn) (v)))) := ⟨_, rfl⟩
  have hw : Hw G w1 s H := by rw [ew1]; exact hw
  have t1_1 : w1 9 = .inr (6, [.ref (gad G 10), .int (nI tn)]) := by rw [ew1]; exact vu_e (by decide) t1
  have t2_1 : w1 10 = .inl (gI G, 120, .inl (upd tf (tn) (v))) := by rw [ew1]; exact vu_s
  refine lv_aload_n hx hb dX7_append_20 rfl (lv_at hl 0 rfl) ?_
  refine lv_dup hx hb dX7_append_21 rfl ?_
  refine w_get (C := RX7) (T := TX7) (N := 2) 1 hx hb hts inX7 hown hw (by decide) t1_1 rfl (by decide) (hts _ tw_78) rfl dX7_append_22 ?_
  refine lv_iconst (v := 1) hx hb dX7_append_25 (by decide) ?_
  refine lv_iadd hx hb dX7_append_26 ?_
  refine tp (y := nI (tn + 1)) (nI_1 tn) ?_
  refine w_put (C := RX7) (T := TX7) (N := 2) (v := .int (nI (tn + 1))) 1 tyX7 hx hb hts inX7 tyX7_ok nmX7 hown hw hX hS (by decide) t1_1 rfl (by decide) (hts _ tw_78) rfl rfl (rfl) (rfl) (Nat.le_of_ble_eq_true rfl) dX7_append_27 (fun H locs hw hS => ?_)
  obtain ⟨w3, ew3⟩ : ∃ wz9 : Nat → va_E, wz9 = va_up w1 9 (.inr (6, [.ref (gad G 10), .int (nI (tn + 1))])) := ⟨_, rfl⟩
  have hw : Hw G w3 s H := by rw [ew3]; exact hw
  have t1_3 : w3 9 = .inr (6, [.ref (gad G 10), .int (nI (tn + 1))]) := by rw [ew3]; exact vu_s
  have t2_3 : w3 10 = .inl (gI G, 120, .inl (upd tf (tn) (v))) := by rw [ew3]; exact vu_e (by decide) t2_1
  exact re_V hx hb hr hlocks hw hS dX7_append_30 (by rw [ew3, ew1])
set_option maxHeartbeats 4000000 in
set_option maxRecDepth 100000 in
theorem k_X7_behindBlanks (l : Launch) {G : GT} {c : Nat → va_E} {tn : Nat} {tf : Nat → Int32} (t1 : c 9 = .inr (6, [.ref (gad G 10), .int (nI tn)])) (t2 : c 10 = .inl (gI G, 120, .inl tf)) (htn : tn ≤ 120) {x : Nat} (hx9 : x ≤ 240) : Met l yX7_behindBlanks (wv yX7_behindBlanks cX7_behindBlanks 3 (some .int)) ({ frames := 1, cells := 0, slots := 0, locals := 21 } : Room) (va_Pc [.ref (gad G 9), .int (nI x)] (fun U => Hw G c U U.heap)) (vp_Si (fun r => r = nI (bhd (blP tf) (tn - x) x))) 0 0 (fun _ => False) := by
  refine en (by decide +kernel) (by first | exact Nat.le_of_ble_eq_true rfl | decide) ?_
  intro p e s m below meth cd ls hx hb hr hml hown hts hlocks hnm hw hl
  have hl : lv_has ls 3 [(0, .ref (gad G 9)), (1, .int (nI x))] := hl
  refine lv_iload_n hx hb dX7_behindBlanks_0 rfl (lv_at hl 1 rfl) ?_
  refine lv_istore_n (lv' := [(2, _), (0, _), (1, _)]) hx hb dX7_behindBlanks_1 rfl hl (by decide) rfl (fun ls hl => ?_)
  have L2 : ∀ (N : Nat) (i : Nat), (tn - i = N) → (i ≤ 240) → (bhd (blP tf) (tn - x) x = bhd (blP tf) (tn - i) i) → ∀ ls : Array Slot, lv_has ls 3 [(2, .int (nI i)), (1, .int (nI x)), (0, .ref (gad G 9))] → W p l e ({ frames := 1, cells := 0, slots := 0, locals := 21 } : Room) s m (([.ref (gad G 9), .int (nI x)] : List Value).toArray) below meth cd s.heap [] 0 0 (MQ below (vp_Si (fun r => r = nI (bhd (blP tf) (tn - x) x))) ([.ref (gad G 9), .int (nI x)] : List Value).toArray s 0 0 (fun _ => False)) (F0 m 2 ls []) := by
    intro N
    induction N with
    | zero =>
      intro i  hN hi hA ls hl
      refine lv_iload_n hx hb dX7_behindBlanks_2 rfl (lv_at hl 0 rfl) ?_
      refine lv_aload_n hx hb dX7_behindBlanks_3 rfl (lv_at hl 2 rfl) ?_
      refine w_get (C := RX7) (T := TX7) (N := 2) 1 hx hb hts inX7 hown hw (by decide) t1 rfl (by decide) (hts _ tw_78) rfl dX7_behindBlanks_4 ?_
      refine lv_icmp_ge (tgt := 26) hx hb dX7_behindBlanks_7 (by decide) (fun c7 => ?_) (fun q => absurd (nI_le (by omega) (by omega)) q)
      refine lv_iload_n hx hb dX7_behindBlanks_26 rfl (lv_at hl 0 rfl) ?_
      exact re_S hx hb hr hlocks (rfl) dX7_behindBlanks_27 (by rw [hA, hN, bhd])
    | succ N ih =>
      intro i  hN hi hA ls hl
      have hN9 : tn - i = (tn - (i + 1)) + 1 := by omega
      have hta : tpa tf tn i = tf i := if_pos (by omega)
      refine lv_iload_n hx hb dX7_behindBlanks_2 rfl (lv_at hl 0 rfl) ?_
      refine lv_aload_n hx hb dX7_behindBlanks_3 rfl (lv_at hl 2 rfl) ?_
      refine w_get (C := RX7) (T := TX7) (N := 2) 1 hx hb hts inX7 hown hw (by decide) t1 rfl (by decide) (hts _ tw_78) rfl dX7_behindBlanks_4 ?_
      refine lv_icmp_ge (tgt := 26) hx hb dX7_behindBlanks_7 (by decide) (fun q => absurd q (nI_ge (by omega) (by omega))) (fun c7 => ?_)
      refine lv_aload_n hx hb dX7_behindBlanks_10 rfl (lv_at hl 2 rfl) ?_
      refine lv_iload_n hx hb dX7_behindBlanks_11 rfl (lv_at hl 0 rfl) ?_
      refine cSe (rV (As := [_]) ⟨hx, hb, hml, hown, hts⟩ hw (k_X7_at l t1 t2 htn (by omega)) (cv_X7_at hts tw_613 rfl rfl ⟨Nat.le_of_ble_eq_true rfl, Nat.le_of_ble_eq_true rfl⟩) (by decide) t1 rfl rfl hl.1 rfl (by first | exact Nat.le_of_ble_eq_true rfl | decide) dX7_behindBlanks_12 ⟨Nat.zero_le _, Nat.zero_le _⟩) ?_
      rw [hta]
      refine lv_bipush (v := 32) hx hb dX7_behindBlanks_15 (by decide) ?_
      refine lv_icmp_ne (tgt := 26) hx hb dX7_behindBlanks_17 (by decide) (fun c17 => ?_) (fun c17 => ?_)
      · refine lv_iload_n hx hb dX7_behindBlanks_26 rfl (lv_at hl 0 rfl) ?_
        exact re_S hx hb hr hlocks (rfl) dX7_behindBlanks_27 (by rw [hA, hN9, bhd, if_neg (by simp [blP]; exact c17)])
      · refine lv_iinc (v := nI (i + 1)) (lv' := [(2, _), (1, _), (0, _)]) hx hb dX7_behindBlanks_20 hl (k := 0) rfl (inc1 i) (by decide) rfl (fun ls hl => ?_)
        refine lv_goto (tgt := 2) hx hb dX7_behindBlanks_23 (by decide) ?_
        exact ih (i + 1) (by omega) (by omega) (by rw [hA, hN9, bhd, if_pos (by simp [blP]; exact c17)]) ls (lv_sub hl [0, 1, 2] rfl)
  exact L2 (tn - x) x rfl hx9 rfl ls (lv_sub hl [0, 2, 1] rfl)
set_option maxHeartbeats 4000000 in
set_option maxRecDepth 100000 in
theorem k_X7_behindLetters (l : Launch) {G : GT} {c : Nat → va_E} {tn : Nat} {tf : Nat → Int32} (t1 : c 9 = .inr (6, [.ref (gad G 10), .int (nI tn)])) (t2 : c 10 = .inl (gI G, 120, .inl tf)) (htn : tn ≤ 120) {x : Nat} (hx9 : x ≤ 240) : Met l yX7_behindLetters (wv yX7_behindLetters cX7_behindLetters 3 (some .int)) ({ frames := 1, cells := 0, slots := 0, locals := 21 } : Room) (va_Pc [.ref (gad G 9), .int (nI x)] (fun U => Hw G c U U.heap)) (vp_Si (fun r => r = nI (bhd (leP tf) (tn - x) x))) 0 0 (fun _ => False) := by
  refine en (by decide +kernel) (by first | exact Nat.le_of_ble_eq_true rfl | decide) ?_
  intro p e s m below meth cd ls hx hb hr hml hown hts hlocks hnm hw hl
  have hl : lv_has ls 3 [(0, .ref (gad G 9)), (1, .int (nI x))] := hl
  refine lv_iload_n hx hb dX7_behindLetters_0 rfl (lv_at hl 1 rfl) ?_
  refine lv_istore_n (lv' := [(2, _), (0, _), (1, _)]) hx hb dX7_behindLetters_1 rfl hl (by decide) rfl (fun ls hl => ?_)
  have L2 : ∀ (N : Nat) (i : Nat), (tn - i = N) → (i ≤ 240) → (bhd (leP tf) (tn - x) x = bhd (leP tf) (tn - i) i) → ∀ ls : Array Slot, lv_has ls 3 [(2, .int (nI i)), (1, .int (nI x)), (0, .ref (gad G 9))] → W p l e ({ frames := 1, cells := 0, slots := 0, locals := 21 } : Room) s m (([.ref (gad G 9), .int (nI x)] : List Value).toArray) below meth cd s.heap [] 0 0 (MQ below (vp_Si (fun r => r = nI (bhd (leP tf) (tn - x) x))) ([.ref (gad G 9), .int (nI x)] : List Value).toArray s 0 0 (fun _ => False)) (F0 m 2 ls []) := by
    intro N
    induction N with
    | zero =>
      intro i  hN hi hA ls hl
      refine lv_iload_n hx hb dX7_behindLetters_2 rfl (lv_at hl 0 rfl) ?_
      refine lv_aload_n hx hb dX7_behindLetters_3 rfl (lv_at hl 2 rfl) ?_
      refine w_get (C := RX7) (T := TX7) (N := 2) 1 hx hb hts inX7 hown hw (by decide) t1 rfl (by decide) (hts _ tw_78) rfl dX7_behindLetters_4 ?_
      refine lv_icmp_ge (tgt := 27) hx hb dX7_behindLetters_7 (by decide) (fun c7 => ?_) (fun q => absurd (nI_le (by omega) (by omega)) q)
      refine lv_iload_n hx hb dX7_behindLetters_27 rfl (lv_at hl 0 rfl) ?_
      exact re_S hx hb hr hlocks (rfl) dX7_behindLetters_28 (by rw [hA, hN, bhd])
    | succ N ih =>
      intro i  hN hi hA ls hl
      have hN9 : tn - i = (tn - (i + 1)) + 1 := by omega
      have hta : tpa tf tn i = tf i := if_pos (by omega)
      refine lv_iload_n hx hb dX7_behindLetters_2 rfl (lv_at hl 0 rfl) ?_
      refine lv_aload_n hx hb dX7_behindLetters_3 rfl (lv_at hl 2 rfl) ?_
      refine w_get (C := RX7) (T := TX7) (N := 2) 1 hx hb hts inX7 hown hw (by decide) t1 rfl (by decide) (hts _ tw_78) rfl dX7_behindLetters_4 ?_
      refine lv_icmp_ge (tgt := 27) hx hb dX7_behindLetters_7 (by decide) (fun q => absurd q (nI_ge (by omega) (by omega))) (fun c7 => ?_)
      refine lv_aload_n hx hb dX7_behindLetters_10 rfl (lv_at hl 2 rfl) ?_
      refine lv_iload_n hx hb dX7_behindLetters_11 rfl (lv_at hl 0 rfl) ?_
      refine cSe (rV (As := [_]) ⟨hx, hb, hml, hown, hts⟩ hw (k_X7_at l t1 t2 htn (by omega)) (cv_X7_at hts tw_613 rfl rfl ⟨Nat.le_of_ble_eq_true rfl, Nat.le_of_ble_eq_true rfl⟩) (by decide) t1 rfl rfl hl.1 rfl (by first | exact Nat.le_of_ble_eq_true rfl | decide) dX7_behindLetters_12 ⟨Nat.zero_le _, Nat.zero_le _⟩) ?_
      rw [hta]
      refine cSe (rST (As := [_]) ⟨hx, hb, hml, hown, hts⟩ (k_X7_isLetter l ) (cv_X7_isLetter hts tw_626 rfl rfl ⟨Nat.le_of_ble_eq_true rfl, Nat.le_of_ble_eq_true rfl⟩) rfl hl.1 rfl (by first | exact Nat.le_of_ble_eq_true rfl | decide) dX7_behindLetters_15 ⟨Nat.zero_le _, Nat.zero_le _⟩) ?_
      refine zb_eq (tgt := 27) hx hb dX7_behindLetters_18 (by decide) (fun c18 => ?_) (fun c18 => ?_)
      · refine lv_iload_n hx hb dX7_behindLetters_27 rfl (lv_at hl 0 rfl) ?_
        exact re_S hx hb hr hlocks (rfl) dX7_behindLetters_28 (by rw [hA, hN9, bhd, if_neg (by rw [leP, c18]; decide)])
      · refine lv_iinc (v := nI (i + 1)) (lv' := [(2, _), (1, _), (0, _)]) hx hb dX7_behindLetters_21 hl (k := 0) rfl (inc1 i) (by decide) rfl (fun ls hl => ?_)
        refine lv_goto (tgt := 2) hx hb dX7_behindLetters_24 (by decide) ?_
        exact ih (i + 1) (by omega) (by omega) (by rw [hA, hN9, bhd, if_pos (show leP tf i = true from c18)]) ls (lv_sub hl [0, 1, 2] rfl)
  exact L2 (tn - x) x rfl hx9 rfl ls (lv_sub hl [0, 2, 1] rfl)
set_option maxHeartbeats 4000000 in
set_option maxRecDepth 100000 in
theorem k_X7_behindDigits (l : Launch) {G : GT} {c : Nat → va_E} {tn : Nat} {tf : Nat → Int32} (t1 : c 9 = .inr (6, [.ref (gad G 10), .int (nI tn)])) (t2 : c 10 = .inl (gI G, 120, .inl tf)) (htn : tn ≤ 120) {x : Nat} (hx9 : x ≤ 240) : Met l yX7_behindDigits (wv yX7_behindDigits cX7_behindDigits 3 (some .int)) ({ frames := 1, cells := 0, slots := 0, locals := 21 } : Room) (va_Pc [.ref (gad G 9), .int (nI x)] (fun U => Hw G c U U.heap)) (vp_Si (fun r => r = nI (bhd (diP tf) (tn - x) x))) 0 0 (fun _ => False) := by
  refine en (by decide +kernel) (by first | exact Nat.le_of_ble_eq_true rfl | decide) ?_
  intro p e s m below meth cd ls hx hb hr hml hown hts hlocks hnm hw hl
  have hl : lv_has ls 3 [(0, .ref (gad G 9)), (1, .int (nI x))] := hl
  refine lv_iload_n hx hb dX7_behindDigits_0 rfl (lv_at hl 1 rfl) ?_
  refine lv_istore_n (lv' := [(2, _), (0, _), (1, _)]) hx hb dX7_behindDigits_1 rfl hl (by decide) rfl (fun ls hl => ?_)
  have L2 : ∀ (N : Nat) (i : Nat), (tn - i = N) → (i ≤ 240) → (bhd (diP tf) (tn - x) x = bhd (diP tf) (tn - i) i) → ∀ ls : Array Slot, lv_has ls 3 [(2, .int (nI i)), (1, .int (nI x)), (0, .ref (gad G 9))] → W p l e ({ frames := 1, cells := 0, slots := 0, locals := 21 } : Room) s m (([.ref (gad G 9), .int (nI x)] : List Value).toArray) below meth cd s.heap [] 0 0 (MQ below (vp_Si (fun r => r = nI (bhd (diP tf) (tn - x) x))) ([.ref (gad G 9), .int (nI x)] : List Value).toArray s 0 0 (fun _ => False)) (F0 m 2 ls []) := by
    intro N
    induction N with
    | zero =>
      intro i  hN hi hA ls hl
      refine lv_iload_n hx hb dX7_behindDigits_2 rfl (lv_at hl 0 rfl) ?_
      refine lv_aload_n hx hb dX7_behindDigits_3 rfl (lv_at hl 2 rfl) ?_
      refine w_get (C := RX7) (T := TX7) (N := 2) 1 hx hb hts inX7 hown hw (by decide) t1 rfl (by decide) (hts _ tw_78) rfl dX7_behindDigits_4 ?_
      refine lv_icmp_ge (tgt := 27) hx hb dX7_behindDigits_7 (by decide) (fun c7 => ?_) (fun q => absurd (nI_le (by omega) (by omega)) q)
      refine lv_iload_n hx hb dX7_behindDigits_27 rfl (lv_at hl 0 rfl) ?_
      exact re_S hx hb hr hlocks (rfl) dX7_behindDigits_28 (by rw [hA, hN, bhd])
    | succ N ih =>
      intro i  hN hi hA ls hl
      have hN9 : tn - i = (tn - (i + 1)) + 1 := by omega
      have hta : tpa tf tn i = tf i := if_pos (by omega)
      refine lv_iload_n hx hb dX7_behindDigits_2 rfl (lv_at hl 0 rfl) ?_
      refine lv_aload_n hx hb dX7_behindDigits_3 rfl (lv_at hl 2 rfl) ?_
      refine w_get (C := RX7) (T := TX7) (N := 2) 1 hx hb hts inX7 hown hw (by decide) t1 rfl (by decide) (hts _ tw_78) rfl dX7_behindDigits_4 ?_
      refine lv_icmp_ge (tgt := 27) hx hb dX7_behindDigits_7 (by decide) (fun q => absurd q (nI_ge (by omega) (by omega))) (fun c7 => ?_)
      refine lv_aload_n hx hb dX7_behindDigits_10 rfl (lv_at hl 2 rfl) ?_
      refine lv_iload_n hx hb dX7_behindDigits_11 rfl (lv_at hl 0 rfl) ?_
      refine cSe (rV (As := [_]) ⟨hx, hb, hml, hown, hts⟩ hw (k_X7_at l t1 t2 htn (by omega)) (cv_X7_at hts tw_613 rfl rfl ⟨Nat.le_of_ble_eq_true rfl, Nat.le_of_ble_eq_true rfl⟩) (by decide) t1 rfl rfl hl.1 rfl (by first | exact Nat.le_of_ble_eq_true rfl | decide) dX7_behindDigits_12 ⟨Nat.zero_le _, Nat.zero_le _⟩) ?_
      rw [hta]
      refine cSe (rST (As := [_]) ⟨hx, hb, hml, hown, hts⟩ (k_X7_isDigit l ) (cv_X7_isDigit hts tw_713 rfl rfl ⟨Nat.le_of_ble_eq_true rfl, Nat.le_of_ble_eq_true rfl⟩) rfl hl.1 rfl (by first | exact Nat.le_of_ble_eq_true rfl | decide) dX7_behindDigits_15 ⟨Nat.zero_le _, Nat.zero_le _⟩) ?_
      refine zb_eq (tgt := 27) hx hb dX7_behindDigits_18 (by decide) (fun c18 => ?_) (fun c18 => ?_)
      · refine lv_iload_n hx hb dX7_behindDigits_27 rfl (lv_at hl 0 rfl) ?_
        exact re_S hx hb hr hlocks (rfl) dX7_behindDigits_28 (by rw [hA, hN9, bhd, if_neg (by rw [diP, c18]; decide)])
      · refine lv_iinc (v := nI (i + 1)) (lv' := [(2, _), (1, _), (0, _)]) hx hb dX7_behindDigits_21 hl (k := 0) rfl (inc1 i) (by decide) rfl (fun ls hl => ?_)
        refine lv_goto (tgt := 2) hx hb dX7_behindDigits_24 (by decide) ?_
        exact ih (i + 1) (by omega) (by omega) (by rw [hA, hN9, bhd, if_pos (show diP tf i = true from c18)]) ls (lv_sub hl [0, 1, 2] rfl)
  exact L2 (tn - x) x rfl hx9 rfl ls (lv_sub hl [0, 2, 1] rfl)
set_option maxHeartbeats 4000000 in
set_option maxRecDepth 100000 in
theorem k_X7_numberBetween (l : Launch) {G : GT} {c : Nat → va_E} {tn : Nat} {tf : Nat → Int32} (t1 : c 9 = .inr (6, [.ref (gad G 10), .int (nI tn)])) (t2 : c 10 = .inl (gI G, 120, .inl tf)) (htn : tn ≤ 120) {x y : Nat} (hxy : x ≤ y) (hy : y ≤ tn) : Met l yX7_numberBetween (wv yX7_numberBetween cX7_numberBetween 5 (some .int)) ({ frames := 1, cells := 0, slots := 0, locals := 21 } : Room) (va_Pc [.ref (gad G 9), .int (nI x), .int (nI y)] (fun U => Hw G c U U.heap)) (vp_Si (fun r => r = nmb tf x (y - x))) 0 0 (fun _ => False) := by
  refine en (by decide +kernel) (by first | exact Nat.le_of_ble_eq_true rfl | decide) ?_
  intro p e s m below meth cd ls hx hb hr hml hown hts hlocks hnm hw hl
  have hl : lv_has ls 5 [(0, .ref (gad G 9)), (1, .int (nI x)), (2, .int (nI y))] := hl
  refine lv_iconst (v := 0) hx hb dX7_numberBetween_0 (by decide) ?_
  refine lv_istore_n (lv' := [(3, _), (0, _), (1, _), (2, _)]) hx hb dX7_numberBetween_1 rfl hl (by decide) rfl (fun ls hl => ?_)
  refine lv_iload_n hx hb dX7_numberBetween_2 rfl (lv_at hl 2 rfl) ?_
  refine lv_istore (lv' := [(4, _), (3, _), (0, _), (1, _), (2, _)]) hx hb dX7_numberBetween_3 hl (by decide) rfl (fun ls hl => ?_)
  have L5 : ∀ (N : Nat) (i : Nat) (v : Int32), (i + N = y - x) → (v = nmb tf x i) → ∀ ls : Array Slot, lv_has ls 5 [(4, .int (nI (x + i))), (3, .int v), (2, .int (nI y)), (1, .int (nI x)), (0, .ref (gad G 9))] → W p l e ({ frames := 1, cells := 0, slots := 0, locals := 21 } : Room) s m (([.ref (gad G 9), .int (nI x), .int (nI y)] : List Value).toArray) below meth cd s.heap [] 0 0 (MQ below (vp_Si (fun r => r = nmb tf x (y - x))) ([.ref (gad G 9), .int (nI x), .int (nI y)] : List Value).toArray s 0 0 (fun _ => False)) (F0 m 5 ls []) := by
    intro N
    induction N with
    | zero =>
      intro i  v  hN hA ls hl
      obtain rfl : i = y - x := by omega
      refine lv_iload hx hb dX7_numberBetween_5 (lv_at hl 0 rfl) ?_
      refine lv_iload_n hx hb dX7_numberBetween_7 rfl (lv_at hl 2 rfl) ?_
      refine lv_icmp_ge (tgt := 38) hx hb dX7_numberBetween_8 (by decide) (fun c8 => ?_) (fun q => absurd (nI_le (by omega) (by omega)) q)
      refine lv_iload_n hx hb dX7_numberBetween_38 rfl (lv_at hl 1 rfl) ?_
      exact re_S hx hb hr hlocks (rfl) dX7_numberBetween_39 (hA)
    | succ N ih =>
      intro i  v  hN hA ls hl
      refine lv_iload hx hb dX7_numberBetween_5 (lv_at hl 0 rfl) ?_
      refine lv_iload_n hx hb dX7_numberBetween_7 rfl (lv_at hl 2 rfl) ?_
      refine lv_icmp_ge (tgt := 38) hx hb dX7_numberBetween_8 (by decide) (fun q => absurd q (nI_ge (by omega) (by omega))) (fun c8 => ?_)
      refine lv_sipush (v := 1000) hx hb dX7_numberBetween_11 (by decide) ?_
      refine lv_bipush (v := 10) hx hb dX7_numberBetween_14 (by decide) ?_
      refine lv_iload_n hx hb dX7_numberBetween_16 rfl (lv_at hl 1 rfl) ?_
      refine lv_imul hx hb dX7_numberBetween_17 ?_
      refine lv_aload_n hx hb dX7_numberBetween_18 rfl (lv_at hl 4 rfl) ?_
      refine lv_iload hx hb dX7_numberBetween_19 (lv_at hl 0 rfl) ?_
      refine cSe (rV (As := [_]) ⟨hx, hb, hml, hown, hts⟩ hw (k_X7_at l t1 t2 htn (by omega)) (cv_X7_at hts tw_613 rfl rfl ⟨Nat.le_of_ble_eq_true rfl, Nat.le_of_ble_eq_true rfl⟩) (by decide) t1 rfl rfl hl.1 rfl (by first | exact Nat.le_of_ble_eq_true rfl | decide) dX7_numberBetween_21 ⟨Nat.zero_le _, Nat.zero_le _⟩) ?_
      rw [show tpa tf tn (x + i) = tf (x + i) from if_pos (by omega)]
      refine lv_iadd hx hb dX7_numberBetween_24 ?_
      refine lv_bipush (v := 48) hx hb dX7_numberBetween_25 (by decide) ?_
      refine lv_isub hx hb dX7_numberBetween_27 ?_
      refine va_mmin hx hb (hml.trans hl.1.symm) hown (hts _ tw_718) (hts _ tw_328) (hts _ tw_13) (hts _ tw_329) (Nat.le_of_ble_eq_true rfl) (Nat.le_of_ble_eq_true rfl) (Nat.zero_le _) (Nat.zero_le _) dX7_numberBetween_28 ?_
      refine lv_istore_n (lv' := [(3, _), (4, _), (2, _), (1, _), (0, _)]) hx hb dX7_numberBetween_31 rfl hl (by decide) rfl (fun ls hl => ?_)
      refine lv_iinc (v := nI (x + (i + 1))) (lv' := [(4, _), (3, _), (2, _), (1, _), (0, _)]) hx hb dX7_numberBetween_32 hl (k := 1) rfl (inc1 (x + i)) (by decide) rfl (fun ls hl => ?_)
      refine lv_goto (tgt := 5) hx hb dX7_numberBetween_35 (by decide) ?_
      exact ih (i + 1) _ (by omega) (by rw [nmb, ← hA]; rfl) ls (lv_sub hl [0, 1, 2, 3, 4] rfl)
  exact L5 (y - x) 0 0 (by omega) rfl ls (lv_sub hl [0, 1, 4, 3, 2] rfl)
