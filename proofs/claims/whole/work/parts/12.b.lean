/-! THE TOKENS of a tape: by the place where the looking for them begins -/
def fF (tf : Nat → Int32) (tn p : Nat) : Nat := bhd (blP tf) (tn - p) p
def kK (tf : Nat → Int32) (tn p : Nat) : Nat := if tn ≤ fF tf tn p then 0 else if leP tf (fF tf tn p) then 1 else if diP tf (fF tf tn p) then 2 else if tf (fF tf tn p) = 59 then 3 else 4
def tT (tf : Nat → Int32) (tn p : Nat) : Nat := if tn ≤ fF tf tn p then fF tf tn p else if leP tf (fF tf tn p) then bhd (leP tf) (tn - fF tf tn p) (fF tf tn p) else if diP tf (fF tf tn p) then bhd (diP tf) (tn - fF tf tn p) (fF tf tn p) else fF tf tn p + 1
def vV (tf : Nat → Int32) (tn p : Nat) : Int32 := if tn ≤ fF tf tn p then 0 else if leP tf (fF tf tn p) then fstU (hsB tf (fF tf tn p) (tT tf tn p)) 17 else if diP tf (fF tf tn p) then nmb tf (fF tf tn p) (tT tf tn p - fF tf tn p) else 0
def tkP (tf : Nat → Int32) (tn : Nat) : Nat → Nat
  | 0 => 0
  | k + 1 => tT tf tn (tkP tf tn k)
def tkK (tf : Nat → Int32) (tn k : Nat) : Nat := kK tf tn (tkP tf tn k)
def tkF (tf : Nat → Int32) (tn k : Nat) : Nat := fF tf tn (tkP tf tn k)
def tkV (tf : Nat → Int32) (tn k : Nat) : Int32 := vV tf tn (tkP tf tn k)
theorem fF_le {tf : Nat → Int32} {tn p : Nat} (h : p ≤ tn) : p ≤ fF tf tn p ∧ fF tf tn p ≤ tn := by
  unfold fF
  have := bhd_le (blP tf) (tn - p) p
  omega
theorem bhd_gt {P : Nat → Bool} {N i : Nat} (hP : P i = true) (hN : 0 < N) : i + 1 ≤ bhd P N i := by
  cases N with
  | zero => omega
  | succ N =>
    rw [bhd, if_pos hP]
    exact (bhd_le P N (i + 1)).1
theorem tT_le {tf : Nat → Int32} {tn p : Nat} (h : p ≤ tn) : tT tf tn p ≤ tn ∧ fF tf tn p ≤ tT tf tn p ∧ (fF tf tn p < tn → fF tf tn p + 1 ≤ tT tf tn p) := by
  have h1 := fF_le (tf := tf) h
  unfold tT
  by_cases h2 : tn ≤ fF tf tn p
  · rw [if_pos h2]; omega
  · rw [if_neg h2]
    by_cases h3 : leP tf (fF tf tn p) = true
    · rw [if_pos h3]
      have a := bhd_le (leP tf) (tn - fF tf tn p) (fF tf tn p)
      have b := bhd_gt (P := leP tf) h3 (N := tn - fF tf tn p) (by omega)
      omega
    · rw [if_neg h3]
      by_cases h4 : diP tf (fF tf tn p) = true
      · rw [if_pos h4]
        have a := bhd_le (diP tf) (tn - fF tf tn p) (fF tf tn p)
        have b := bhd_gt (P := diP tf) h4 (N := tn - fF tf tn p) (by omega)
        omega
      · rw [if_neg h4]; omega
theorem tkP_le {tf : Nat → Int32} {tn : Nat} : ∀ k, tkP tf tn k ≤ tn
  | 0 => Nat.zero_le _
  | k + 1 => (tT_le (tkP_le k)).1
theorem tkK_0 {tf : Nat → Int32} {tn k : Nat} : tkK tf tn k = 0 ↔ tn ≤ tkF tf tn k := by
  unfold tkK tkF kK
  by_cases h : tn ≤ fF tf tn (tkP tf tn k)
  · simp [h]
  · simp only [h, if_false, iff_false]
    repeat' split
    all_goals decide
/-- each token takes a byte or more -/
theorem tkP_ge {tf : Nat → Int32} {tn : Nat} : ∀ i, (∀ k, k < i → tkK tf tn k ≠ 0) → i ≤ tkP tf tn i
  | 0, _ => Nat.zero_le _
  | i + 1, h => by
    have ih := tkP_ge (tf := tf) (tn := tn) i (fun k hk => h k (by omega))
    have h1 := h i (by omega)
    have h2 := tT_le (tf := tf) (tkP_le (tf := tf) (tn := tn) i)
    have h3 : tkF tf tn i < tn := Nat.not_le.mp fun q => h1 (tkK_0.mpr q)
    have h4 := fF_le (tf := tf) (tkP_le (tf := tf) (tn := tn) i)
    have h5 := h2.2.2 h3
    show i + 1 ≤ tT tf tn (tkP tf tn i)
    omega
/-- what the rows of the tokens hold -/
def TKS (tf : Nat → Int32) (tn : Nat) (kk ks kv : Nat → Int32) (kn : Nat) : Prop :=
  1 ≤ kn ∧ kn ≤ 121 ∧ (∀ k, k < kn → kk k = nI (tkK tf tn k) ∧ ks k = nI (tkF tf tn k) ∧ kv k = tkV tf tn k) ∧ (∀ k, k + 1 < kn → tkK tf tn k ≠ 0) ∧ tkK tf tn (kn - 1) = 0
def TKI (tf : Nat → Int32) (tn : Nat) (kk ks kv : Nat → Int32) (i : Nat) : Prop :=
  (∀ k, k < i → kk k = nI (tkK tf tn k) ∧ ks k = nI (tkF tf tn k) ∧ kv k = tkV tf tn k) ∧ (∀ k, k < i → tkK tf tn k ≠ 0)
theorem TKI_s {tf : Nat → Int32} {tn : Nat} {kk ks kv : Nat → Int32} {i : Nat} {a b d : Int32} (h : TKI tf tn kk ks kv i) (h0 : tkK tf tn i ≠ 0) (ha : a = nI (tkK tf tn i)) (hb : b = nI (tkF tf tn i)) (hd : d = tkV tf tn i) : TKI tf tn (upd kk i a) (upd ks i b) (upd kv i d) (i + 1) := by
  refine ⟨fun k hk => ?_, fun k hk => ?_⟩
  · by_cases e : k = i
    · subst e
      rw [pk_us, pk_us, pk_us]
      exact ⟨ha, hb, hd⟩
    · rw [pk_un e, pk_un e, pk_un e]
      exact h.1 k (by omega)
  · by_cases e : k = i
    · subst e; exact h0
    · exact h.2 k (by omega)
theorem TKS_of {tf : Nat → Int32} {tn : Nat} {kk ks kv : Nat → Int32} {i : Nat} (h : TKI tf tn kk ks kv i) (hi : i ≤ 120) (h0 : tkF tf tn i = tn) : TKS tf tn (upd kk i 0) (upd ks i (nI tn)) (upd kv i 0) (i + 1) := by
  have hK : tkK tf tn i = 0 := tkK_0.mpr (by rw [h0]; exact Nat.le_refl _)
  refine ⟨by omega, by omega, fun k hk => ?_, fun k hk => h.2 k (by omega), by rw [Nat.add_sub_cancel]; exact hK⟩
  by_cases e : k = i
  · subst e
    rw [pk_us, pk_us, pk_us, hK, h0]
    refine ⟨rfl, rfl, ?_⟩
    have : tn ≤ fF tf tn (tkP tf tn k) := by have := h0; unfold tkF at this; omega
    unfold tkV vV
    rw [if_pos this]
  · rw [pk_un e, pk_un e, pk_un e]
    exact h.1 k (by omega)
def kat (kk : Nat → Int32) (kn x : Nat) : Int32 := if x < kn then kk x else 0

set_option maxHeartbeats 4000000 in
set_option maxRecDepth 100000 in
theorem k_X8_kindAt (l : Launch) {G : GT} {c : Nat → va_E} {kn : Nat} {kk ks kv : Nat → Int32} (k1 : c 12 = .inr (7, [.ref (gad G 13), .ref (gad G 14), .ref (gad G 15), .int (nI kn)])) (k2 : c 13 = .inl (gI G, 121, .inl kk)) (k3 : c 14 = .inl (gI G, 121, .inl ks)) (k4 : c 15 = .inl (gI G, 121, .inl kv)) (hkn : kn ≤ 121) {x : Nat} (hx9 : x < 2 ^ 31) : Met l yX8_kindAt (wv yX8_kindAt cX8_kindAt 2 (some .int)) ({ frames := 0, cells := 0, slots := 0, locals := 0 } : Room) (va_Pc [.ref (gad G 12), .int (nI x)] (fun U => Hw G c U U.heap)) (vp_Si (fun r => r = kat kk kn x)) 0 0 (fun _ => False) := by
  refine en (by decide +kernel) (by first | exact Nat.le_of_ble_eq_true rfl | decide) ?_
  intro p e s m below meth cd ls hx hb hr hml hown hts hlocks hnm hw hl
  have hl : lv_has ls 2 [(0, .ref (gad G 12)), (1, .int (nI x))] := hl
  refine lv_iload_n hx hb dX8_kindAt_0 rfl (lv_at hl 1 rfl) ?_
  refine lv_if_lt (tgt := 21) hx hb dX8_kindAt_1 (by decide) (fun q => absurd q (nI_pos hx9)) (fun c1 => ?_)
  refine lv_iload_n hx hb dX8_kindAt_4 rfl (lv_at hl 1 rfl) ?_
  refine lv_aload_n hx hb dX8_kindAt_5 rfl (lv_at hl 0 rfl) ?_
  refine w_get (C := RX8) (T := TX8) (N := 4) 3 hx hb hts inX8 hown hw (by decide) k1 rfl (by decide) (hts _ tw_99) rfl dX8_kindAt_6 ?_
  refine lv_icmp_ge (tgt := 21) hx hb dX8_kindAt_9 (by decide) (fun c9 => ?_) (fun c9 => ?_)
  · refine lv_iconst (v := 0) hx hb dX8_kindAt_21 (by decide) ?_
    exact re_S hx hb hr hlocks (rfl) dX8_kindAt_22 (by rw [kat, if_neg (by have := (nI_leI (by omega) hx9).mp c9; omega)])
  · have hlt : x < kn := (nI_ltI hx9 (by omega)).mp (Int32.not_le.mp c9)
    refine lv_aload_n hx hb dX8_kindAt_12 rfl (lv_at hl 0 rfl) ?_
    refine w_get (C := RX8) (T := TX8) (N := 4) 0 hx hb hts inX8 hown hw (by decide) k1 rfl (by decide) (hts _ tw_96) rfl dX8_kindAt_13 ?_
    refine lv_iload_n hx hb dX8_kindAt_16 rfl (lv_at hl 1 rfl) ?_
    refine w_ialdN (j := x) hx hb hw (by decide) k2 (rfl) (by omega) (by decide) dX8_kindAt_17 ?_
    refine lv_goto (tgt := 22) hx hb dX8_kindAt_18 (by decide) ?_
    exact re_S hx hb hr hlocks (rfl) dX8_kindAt_22 (by rw [kat, if_pos hlt])
set_option maxHeartbeats 4000000 in
set_option maxRecDepth 100000 in
theorem k_X8_startAt (l : Launch) {G : GT} {c : Nat → va_E} {kn : Nat} {kk ks kv : Nat → Int32} (k1 : c 12 = .inr (7, [.ref (gad G 13), .ref (gad G 14), .ref (gad G 15), .int (nI kn)])) (k2 : c 13 = .inl (gI G, 121, .inl kk)) (k3 : c 14 = .inl (gI G, 121, .inl ks)) (k4 : c 15 = .inl (gI G, 121, .inl kv)) (hkn : kn ≤ 121) {x : Nat} (hx9 : x < 2 ^ 31) : Met l yX8_startAt (wv yX8_startAt cX8_startAt 2 (some .int)) ({ frames := 0, cells := 0, slots := 0, locals := 0 } : Room) (va_Pc [.ref (gad G 12), .int (nI x)] (fun U => Hw G c U U.heap)) (vp_Si (fun r => r = kat ks kn x)) 0 0 (fun _ => False) := by
  refine en (by decide +kernel) (by first | exact Nat.le_of_ble_eq_true rfl | decide) ?_
  intro p e s m below meth cd ls hx hb hr hml hown hts hlocks hnm hw hl
  have hl : lv_has ls 2 [(0, .ref (gad G 12)), (1, .int (nI x))] := hl
  refine lv_iload_n hx hb dX8_startAt_0 rfl (lv_at hl 1 rfl) ?_
  refine lv_if_lt (tgt := 21) hx hb dX8_startAt_1 (by decide) (fun q => absurd q (nI_pos hx9)) (fun c1 => ?_)
  refine lv_iload_n hx hb dX8_startAt_4 rfl (lv_at hl 1 rfl) ?_
  refine lv_aload_n hx hb dX8_startAt_5 rfl (lv_at hl 0 rfl) ?_
  refine w_get (C := RX8) (T := TX8) (N := 4) 3 hx hb hts inX8 hown hw (by decide) k1 rfl (by decide) (hts _ tw_99) rfl dX8_startAt_6 ?_
  refine lv_icmp_ge (tgt := 21) hx hb dX8_startAt_9 (by decide) (fun c9 => ?_) (fun c9 => ?_)
  · refine lv_iconst (v := 0) hx hb dX8_startAt_21 (by decide) ?_
    exact re_S hx hb hr hlocks (rfl) dX8_startAt_22 (by rw [kat, if_neg (by have := (nI_leI (by omega) hx9).mp c9; omega)])
  · have hlt : x < kn := (nI_ltI hx9 (by omega)).mp (Int32.not_le.mp c9)
    refine lv_aload_n hx hb dX8_startAt_12 rfl (lv_at hl 0 rfl) ?_
    refine w_get (C := RX8) (T := TX8) (N := 4) 1 hx hb hts inX8 hown hw (by decide) k1 rfl (by decide) (hts _ tw_97) rfl dX8_startAt_13 ?_
    refine lv_iload_n hx hb dX8_startAt_16 rfl (lv_at hl 1 rfl) ?_
    refine w_ialdN (j := x) hx hb hw (by decide) k3 (rfl) (by omega) (by decide) dX8_startAt_17 ?_
    refine lv_goto (tgt := 22) hx hb dX8_startAt_18 (by decide) ?_
    exact re_S hx hb hr hlocks (rfl) dX8_startAt_22 (by rw [kat, if_pos hlt])
set_option maxHeartbeats 4000000 in
set_option maxRecDepth 100000 in
theorem k_X8_valueAt (l : Launch) {G : GT} {c : Nat → va_E} {kn : Nat} {kk ks kv : Nat → Int32} (k1 : c 12 = .inr (7, [.ref (gad G 13), .ref (gad G 14), .ref (gad G 15), .int (nI kn)])) (k2 : c 13 = .inl (gI G, 121, .inl kk)) (k3 : c 14 = .inl (gI G, 121, .inl ks)) (k4 : c 15 = .inl (gI G, 121, .inl kv)) (hkn : kn ≤ 121) {x : Nat} (hx9 : x < 2 ^ 31) : Met l yX8_valueAt (wv yX8_valueAt cX8_valueAt 2 (some .int)) ({ frames := 0, cells := 0, slots := 0, locals := 0 } : Room) (va_Pc [.ref (gad G 12), .int (nI x)] (fun U => Hw G c U U.heap)) (vp_Si (fun r => r = kat kv kn x)) 0 0 (fun _ => False) := by
  refine en (by decide +kernel) (by first | exact Nat.le_of_ble_eq_true rfl | decide) ?_
  intro p e s m below meth cd ls hx hb hr hml hown hts hlocks hnm hw hl
  have hl : lv_has ls 2 [(0, .ref (gad G 12)), (1, .int (nI x))] := hl
  refine lv_iload_n hx hb dX8_valueAt_0 rfl (lv_at hl 1 rfl) ?_
  refine lv_if_lt (tgt := 21) hx hb dX8_valueAt_1 (by decide) (fun q => absurd q (nI_pos hx9)) (fun c1 => ?_)
  refine lv_iload_n hx hb dX8_valueAt_4 rfl (lv_at hl 1 rfl) ?_
  refine lv_aload_n hx hb dX8_valueAt_5 rfl (lv_at hl 0 rfl) ?_
  refine w_get (C := RX8) (T := TX8) (N := 4) 3 hx hb hts inX8 hown hw (by decide) k1 rfl (by decide) (hts _ tw_99) rfl dX8_valueAt_6 ?_
  refine lv_icmp_ge (tgt := 21) hx hb dX8_valueAt_9 (by decide) (fun c9 => ?_) (fun c9 => ?_)
  · refine lv_iconst (v := 0) hx hb dX8_valueAt_21 (by decide) ?_
    exact re_S hx hb hr hlocks (rfl) dX8_valueAt_22 (by rw [kat, if_neg (by have := (nI_leI (by omega) hx9).mp c9; omega)])
  · have hlt : x < kn := (nI_ltI hx9 (by omega)).mp (Int32.not_le.mp c9)
    refine lv_aload_n hx hb dX8_valueAt_12 rfl (lv_at hl 0 rfl) ?_
    refine w_get (C := RX8) (T := TX8) (N := 4) 2 hx hb hts inX8 hown hw (by decide) k1 rfl (by decide) (hts _ tw_98) rfl dX8_valueAt_13 ?_
    refine lv_iload_n hx hb dX8_valueAt_16 rfl (lv_at hl 1 rfl) ?_
    refine w_ialdN (j := x) hx hb hw (by decide) k4 (rfl) (by omega) (by decide) dX8_valueAt_17 ?_
    refine lv_goto (tgt := 22) hx hb dX8_valueAt_18 (by decide) ?_
    exact re_S hx hb hr hlocks (rfl) dX8_valueAt_22 (by rw [kat, if_pos hlt])
set_option maxHeartbeats 4000000 in
set_option maxRecDepth 100000 in
theorem k_X8_add (l : Launch) {G : GT} {c : Nat → va_E} {kn : Nat} {kk ks kv : Nat → Int32} (k1 : c 12 = .inr (7, [.ref (gad G 13), .ref (gad G 14), .ref (gad G 15), .int (nI kn)])) (k2 : c 13 = .inl (gI G, 121, .inl kk)) (k3 : c 14 = .inl (gI G, 121, .inl ks)) (k4 : c 15 = .inl (gI G, 121, .inl kv)) (hkn : kn ≤ 121) {a b d : Int32} (hlt : kn < 121) : Met l yX8_add (wv yX8_add cX8_add 4 none) ({ frames := 0, cells := 0, slots := 0, locals := 0 } : Room) (va_Pc [.ref (gad G 12), .int a, .int b, .int d] (fun U => Hw G c U U.heap)) (va_Qv (fun c9 : Nat → va_E => c9 = va_up (va_up (va_up (va_up c 13 (.inl (gI G, 121, .inl (upd kk kn a)))) 14 (.inl (gI G, 121, .inl (upd ks kn b)))) 15 (.inl (gI G, 121, .inl (upd kv kn d)))) 12 (.inr (7, [.ref (gad G 13), .ref (gad G 14), .ref (gad G 15), .int (nI (kn + 1))]))) (fun c9 t => Hw G c9 t t.heap) (gA G)) 0 0 (gA G) := by
  refine en (by decide +kernel) (by first | exact Nat.le_of_ble_eq_true rfl | decide) ?_
  intro p e s m below meth cd ls hx hb hr hml hown hts hlocks hnm hw hl
  have hl : lv_has ls 4 [(0, .ref (gad G 12)), (1, .int a), (2, .int b), (3, .int d)] := hl
  have hX : Sw G s s.heap := hw.2.2.2.2.2
  have hS : va_S (gA G) s.heap s.heap [] := va_S.rf
  obtain ⟨H, hH⟩ : ∃ wz9, wz9 = s.heap := ⟨_, rfl⟩
  obtain ⟨locs, hlocs⟩ : ∃ wz9 : List Loc, wz9 = [] := ⟨_, rfl⟩
  have hw : Hw G c s H := by rw [hH]; exact hw
  have hS : va_S (gA G) s.heap H locs := by rw [hH, hlocs]; exact hS
  suffices hgo : W p l e ({ frames := 0, cells := 0, slots := 0, locals := 0 } : Room) s m (([.ref (gad G 12), .int a, .int b, .int d] : List Value).toArray) below meth cd H locs 0 0 (MQ below (va_Qv (fun c9 : Nat → va_E => c9 = va_up (va_up (va_up (va_up c 13 (.inl (gI G, 121, .inl (upd kk kn a)))) 14 (.inl (gI G, 121, .inl (upd ks kn b)))) 15 (.inl (gI G, 121, .inl (upd kv kn d)))) 12 (.inr (7, [.ref (gad G 13), .ref (gad G 14), .ref (gad G 15), .int (nI (kn + 1))]))) (fun c9 t => Hw G c9 t t.heap) (gA G)) ([.ref (gad G 12), .int a, .int b, .int d] : List Value).toArray s 0 0 (gA G)) (F0 m 0 ls []) by rw [hH, hlocs] at hgo; exact hgo
  refine lv_aload_n hx hb dX8_add_0 rfl (lv_at hl 0 rfl) ?_
  refine w_get (C := RX8) (T := TX8) (N := 4) 3 hx hb hts inX8 hown hw (by decide) k1 rfl (by decide) (hts _ tw_99) rfl dX8_add_1 ?_
  refine lv_bipush (v := 121) hx hb dX8_add_4 (by decide) ?_
  refine lv_icmp_lt (tgt := 10) hx hb dX8_add_6 (by decide) (fun c6 => ?_) (fun q => absurd (nI_lt (b := 121) hlt (by omega)) q)
  refine lv_aload_n hx hb dX8_add_10 rfl (lv_at hl 0 rfl) ?_
  refine w_get (C := RX8) (T := TX8) (N := 4) 0 hx hb hts inX8 hown hw (by decide) k1 rfl (by decide) (hts _ tw_96) rfl dX8_add_11 ?_
  refine lv_aload_n hx hb dX8_add_14 rfl (lv_at hl 0 rfl) ?_
  refine w_get (C := RX8) (T := TX8) (N := 4) 3 hx hb hts inX8 hown hw (by decide) k1 rfl (by decide) (hts _ tw_99) rfl dX8_add_15 ?_
  refine lv_iload_n hx hb dX8_add_18 rfl (lv_at hl 1 rfl) ?_
  refine w_iastN (j := kn) (x := a) hx hb hw hX hS (by decide) k2 (rfl) (hlt) (by decide) dX8_add_19 (fun H locs hw hS => ?_)
  obtain ⟨w1, ew1⟩ : ∃ wz9 : Nat → va_E, wz9 = va_up c 13 (.inl (gI G, 121, .inl (upd kk (kn) (a)))) := ⟨_, rfl⟩
  have hw : Hw G w1 s H := by rw [ew1]; exact hw
  have k1_1 : w1 12 = .inr (7, [.ref (gad G 13), .ref (gad G 14), .ref (gad G 15), .int (nI kn)]) := by rw [ew1]; exact vu_e (by decide) k1
  have k2_1 : w1 13 = .inl (gI G, 121, .inl (upd kk (kn) (a))) := by rw [ew1]; exact vu_s
  have k3_1 : w1 14 = .inl (gI G, 121, .inl ks) := by rw [ew1]; exact vu_e (by decide) k3
  have k4_1 : w1 15 = .inl (gI G, 121, .inl kv) := by rw [ew1]; exact vu_e (by decide) k4
  refine lv_aload_n hx hb dX8_add_20 rfl (lv_at hl 0 rfl) ?_
  refine w_get (C := RX8) (T := TX8) (N := 4) 1 hx hb hts inX8 hown hw (by decide) k1_1 rfl (by decide) (hts _ tw_97) rfl dX8_add_21 ?_
  refine lv_aload_n hx hb dX8_add_24 rfl (lv_at hl 0 rfl) ?_
  refine w_get (C := RX8) (T := TX8) (N := 4) 3 hx hb hts inX8 hown hw (by decide) k1_1 rfl (by decide) (hts _ tw_99) rfl dX8_add_25 ?_
  refine lv_iload_n hx hb dX8_add_28 rfl (lv_at hl 2 rfl) ?_
  refine w_iastN (j := kn) (x := b) hx hb hw hX hS (by decide) k3_1 (rfl) (hlt) (by decide) dX8_add_29 (fun H locs hw hS => ?_)
  obtain ⟨w2, ew2⟩ : ∃ wz9 : Nat → va_E, wz9 = va_up w1 14 (.inl (gI G, 121, .inl (upd ks (kn) (b)))) := ⟨_, rfl⟩
  have hw : Hw G w2 s H := by rw [ew2]; exact hw
  have k1_2 : w2 12 = .inr (7, [.ref (gad G 13), .ref (gad G 14), .ref (gad G 15), .int (nI kn)]) := by rw [ew2]; exact vu_e (by decide) k1_1
  have k2_2 : w2 13 = .inl (gI G, 121, .inl (upd kk (kn) (a))) := by rw [ew2]; exact vu_e (by decide) k2_1
  have k3_2 : w2 14 = .inl (gI G, 121, .inl (upd ks (kn) (b))) := by rw [ew2]; exact vu_s
  have k4_2 : w2 15 = .inl (gI G, 121, .inl kv) := by rw [ew2]; exact vu_e (by decide) k4_1
  refine lv_aload_n hx hb dX8_add_30 rfl (lv_at hl 0 rfl) ?_
  refine w_get (C := RX8) (T := TX8) (N := 4) 2 hx hb hts inX8 hown hw (by decide) k1_2 rfl (by decide) (hts _ tw_98) rfl dX8_add_31 ?_
  refine lv_aload_n hx hb dX8_add_34 rfl (lv_at hl 0 rfl) ?_
  refine w_get (C := RX8) (T := TX8) (N := 4) 3 hx hb hts inX8 hown hw (by decide) k1_2 rfl (by decide) (hts _ tw_99) rfl dX8_add_35 ?_
  refine lv_iload_n hx hb dX8_add_38 rfl (lv_at hl 3 rfl) ?_
  refine w_iastN (j := kn) (x := d) hx hb hw hX hS (by decide) k4_2 (rfl) (hlt) (by decide) dX8_add_39 (fun H locs hw hS => ?_)
  obtain ⟨w3, ew3⟩ : ∃ wz9 : Nat → va_E, wz9 = va_up w2 15 (.inl (gI G, 121, .inl (upd kv (kn) (d)))) := ⟨_, rfl⟩
  have hw : Hw G w3 s H := by rw [ew3]; exact hw
  have k1_3 : w3 12 = .inr (7, [.ref (gad G 13), .ref (gad G 14), .ref (gad G 15), .int (nI kn)]) := by rw [ew3]; exact vu_e (by decide) k1_2
  have k2_3 : w3 13 = .inl (gI G, 121, .inl (upd kk (kn) (a))) := by rw [ew3]; exact vu_e (by decide) k2_2
  have k3_3 : w3 14 = .inl (gI G, 121, .inl (upd ks (kn) (b))) := by rw [ew3]; exact vu_e (by decide) k3_2
  have k4_3 : w3 15 = .inl (gI G, 121, .inl (upd kv (kn) (d))) := by rw [ew3]; exact vu_s
  refine lv_aload_n hx hb dX8_add_40 rfl (lv_at hl 0 rfl) ?_
  refine lv_dup hx hb dX8_add_41 rfl ?_
  refine w_get (C := RX8) (T := TX8) (N := 4) 3 hx hb hts inX8 hown hw (by decide) k1_3 rfl (by decide) (hts _ tw_99) rfl dX8_add_42 ?_
  refine lv_iconst (v := 1) hx hb dX8_add_45 (by decide) ?_
  refine lv_iadd hx hb dX8_add_46 ?_
  refine tp (y := nI (kn + 1)) (nI_1 kn) ?_
  refine w_put (C := RX8) (T := TX8) (N := 4) (v := .int (nI (kn + 1))) 3 tyX8 hx hb hts inX8 tyX8_ok nmX8 hown hw hX hS (by decide) k1_3 rfl (by decide) (hts _ tw_99) rfl rfl (rfl) (rfl) (Nat.le_of_ble_eq_true rfl) dX8_add_47 (fun H locs hw hS => ?_)
  obtain ⟨w5, ew5⟩ : ∃ wz9 : Nat → va_E, wz9 = va_up w3 12 (.inr (7, [.ref (gad G 13), .ref (gad G 14), .ref (gad G 15), .int (nI (kn + 1))])) := ⟨_, rfl⟩
  have hw : Hw G w5 s H := by rw [ew5]; exact hw
  have k1_5 : w5 12 = .inr (7, [.ref (gad G 13), .ref (gad G 14), .ref (gad G 15), .int (nI (kn + 1))]) := by rw [ew5]; exact vu_s
  have k2_5 : w5 13 = .inl (gI G, 121, .inl (upd kk (kn) (a))) := by rw [ew5]; exact vu_e (by decide) k2_3
  have k3_5 : w5 14 = .inl (gI G, 121, .inl (upd ks (kn) (b))) := by rw [ew5]; exact vu_e (by decide) k3_3
  have k4_5 : w5 15 = .inl (gI G, 121, .inl (upd kv (kn) (d))) := by rw [ew5]; exact vu_e (by decide) k4_3
  exact re_V hx hb hr hlocks hw hS dX8_add_50 (by rw [ew5, ew3, ew2, ew1])
theorem up4 {α : Type} {f : Nat → α} {a b d e a2 b2 d2 e2 : α} : va_up (va_up (va_up (va_up (va_up (va_up (va_up (va_up f 13 a) 14 b) 15 d) 12 e) 13 a2) 14 b2) 15 d2) 12 e2 = va_up (va_up (va_up (va_up f 13 a2) 14 b2) 15 d2) 12 e2 := by
  funext j
  unfold va_up
  repeat' split
  all_goals first | rfl | omega
set_option maxHeartbeats 4000000 in
set_option maxRecDepth 100000 in
theorem k_X8_cut (l : Launch) {G : GT} {c : Nat → va_E} {kn : Nat} {kk ks kv : Nat → Int32} (k1 : c 12 = .inr (7, [.ref (gad G 13), .ref (gad G 14), .ref (gad G 15), .int (nI kn)])) (k2 : c 13 = .inl (gI G, 121, .inl kk)) (k3 : c 14 = .inl (gI G, 121, .inl ks)) (k4 : c 15 = .inl (gI G, 121, .inl kv)) (hkn : kn ≤ 121) {tn : Nat} {tf : Nat → Int32} (t1 : c 9 = .inr (6, [.ref (gad G 10), .int (nI tn)])) (t2 : c 10 = .inl (gI G, 120, .inl tf)) (htn : tn ≤ 120) : Met l yX8_cut (wv yX8_cut cX8_cut 5 none) ({ frames := 6, cells := 0, slots := 0, locals := 132 } : Room) (va_Pc [.ref (gad G 12), .ref (gad G 9)] (fun U => Hw G c U U.heap)) (va_Qv (fun c9 : Nat → va_E => ∃ (kn2 : Nat) (kk2 ks2 kv2 : Nat → Int32), TKS tf tn kk2 ks2 kv2 kn2 ∧ c9 = va_up (va_up (va_up (va_up c 13 (.inl (gI G, 121, .inl kk2))) 14 (.inl (gI G, 121, .inl ks2))) 15 (.inl (gI G, 121, .inl kv2))) 12 (.inr (7, [.ref (gad G 13), .ref (gad G 14), .ref (gad G 15), .int (nI kn2)]))) (fun c9 t => Hw G c9 t t.heap) (gA G)) 0 0 (gA G) := by
  refine en (by decide +kernel) (by first | exact Nat.le_of_ble_eq_true rfl | decide) ?_
  intro p e s m below meth cd ls hx hb hr hml hown hts hlocks hnm hw hl
  have hl : lv_has ls 5 [(0, .ref (gad G 12)), (1, .ref (gad G 9))] := hl
  have hX : Sw G s s.heap := hw.2.2.2.2.2
  have hS : va_S (gA G) s.heap s.heap [] := va_S.rf
  obtain ⟨H, hH⟩ : ∃ wz9, wz9 = s.heap := ⟨_, rfl⟩
  obtain ⟨locs, hlocs⟩ : ∃ wz9 : List Loc, wz9 = [] := ⟨_, rfl⟩
  have hw : Hw G c s H := by rw [hH]; exact hw
  have hS : va_S (gA G) s.heap H locs := by rw [hH, hlocs]; exact hS
  suffices hgo : W p l e ({ frames := 6, cells := 0, slots := 0, locals := 132 } : Room) s m (([.ref (gad G 12), .ref (gad G 9)] : List Value).toArray) below meth cd H locs 0 0 (MQ below (va_Qv (fun c9 : Nat → va_E => ∃ (kn2 : Nat) (kk2 ks2 kv2 : Nat → Int32), TKS tf tn kk2 ks2 kv2 kn2 ∧ c9 = va_up (va_up (va_up (va_up c 13 (.inl (gI G, 121, .inl kk2))) 14 (.inl (gI G, 121, .inl ks2))) 15 (.inl (gI G, 121, .inl kv2))) 12 (.inr (7, [.ref (gad G 13), .ref (gad G 14), .ref (gad G 15), .int (nI kn2)]))) (fun c9 t => Hw G c9 t t.heap) (gA G)) ([.ref (gad G 12), .ref (gad G 9)] : List Value).toArray s 0 0 (gA G)) (F0 m 0 ls []) by rw [hH, hlocs] at hgo; exact hgo
  refine lv_aload_n hx hb dX8_cut_0 rfl (lv_at hl 0 rfl) ?_
  refine lv_iconst (v := 0) hx hb dX8_cut_1 (by decide) ?_
  refine w_put (C := RX8) (T := TX8) (N := 4) (v := .int (nI 0)) 3 tyX8 hx hb hts inX8 tyX8_ok nmX8 hown hw hX hS (by decide) k1 rfl (by decide) (hts _ tw_99) rfl rfl (rfl) (rfl) (Nat.le_of_ble_eq_true rfl) dX8_cut_2 (fun H locs hw hS => ?_)
  obtain ⟨w2, ew2⟩ : ∃ wz9 : Nat → va_E, wz9 = va_up c 12 (.inr (7, [.ref (gad G 13), .ref (gad G 14), .ref (gad G 15), .int (nI 0)])) := ⟨_, rfl⟩
  have hw : Hw G w2 s H := by rw [ew2]; exact hw
  have k1_2 : w2 12 = .inr (7, [.ref (gad G 13), .ref (gad G 14), .ref (gad G 15), .int (nI 0)]) := by rw [ew2]; exact vu_s
  have k2_2 : w2 13 = .inl (gI G, 121, .inl kk) := by rw [ew2]; exact vu_e (by decide) k2
  have k3_2 : w2 14 = .inl (gI G, 121, .inl ks) := by rw [ew2]; exact vu_e (by decide) k3
  have k4_2 : w2 15 = .inl (gI G, 121, .inl kv) := by rw [ew2]; exact vu_e (by decide) k4
  have t1_2 : w2 9 = .inr (6, [.ref (gad G 10), .int (nI tn)]) := by rw [ew2]; exact vu_e (by decide) t1
  have t2_2 : w2 10 = .inl (gI G, 120, .inl tf) := by rw [ew2]; exact vu_e (by decide) t2
  refine lv_aload_n hx hb dX8_cut_5 rfl (lv_at hl 1 rfl) ?_
  refine lv_iconst (v := 0) hx hb dX8_cut_6 (by decide) ?_
  refine cSe (rV (As := [_]) ⟨hx, hb, hml, hown, hts⟩ hw (k_X7_behindBlanks l t1_2 t2_2 htn (x := 0) (by omega)) (cv_X7_behindBlanks hts tw_609 rfl rfl ⟨Nat.le_of_ble_eq_true rfl, Nat.le_of_ble_eq_true rfl⟩) (by decide) t1_2 rfl rfl hl.1 rfl (by first | exact Nat.le_of_ble_eq_true rfl | decide) dX8_cut_7 ⟨Nat.zero_le _, Nat.zero_le _⟩) ?_
  refine lv_istore_n (lv' := [(2, _), (0, _), (1, _)]) hx hb dX8_cut_10 rfl hl (by decide) rfl (fun ls hl => ?_)
  refine lv_iconst (v := 0) hx hb dX8_cut_11 (by decide) ?_
  refine lv_istore_n (lv' := [(3, _), (2, _), (0, _), (1, _)]) hx hb dX8_cut_12 rfl hl (by decide) rfl (fun ls hl => ?_)
  have L13 : ∀ (N : Nat) (i : Nat) (kz sz vz : Nat → Int32) (q0 : Nat), (i + N = 120) → (TKI tf tn kz sz vz i) → (q0 = tkF tf tn i) → ∀ (c0 : Nat → va_E) (H : Heap) (locs : List Loc), (c0 = va_up (va_up (va_up (va_up c 13 (.inl (gI G, 121, .inl kz))) 14 (.inl (gI G, 121, .inl sz))) 15 (.inl (gI G, 121, .inl vz))) 12 (.inr (7, [.ref (gad G 13), .ref (gad G 14), .ref (gad G 15), .int (nI i)]))) → Hw G c0 s H → va_S (gA G) s.heap H locs → ∀ ls : Array Slot, lv_has ls 5 [(3, .int (nI i)), (2, .int (nI q0)), (1, .ref (gad G 9)), (0, .ref (gad G 12))] → W p l e ({ frames := 6, cells := 0, slots := 0, locals := 132 } : Room) s m (([.ref (gad G 12), .ref (gad G 9)] : List Value).toArray) below meth cd H locs 0 0 (MQ below (va_Qv (fun c9 : Nat → va_E => ∃ (kn2 : Nat) (kk2 ks2 kv2 : Nat → Int32), TKS tf tn kk2 ks2 kv2 kn2 ∧ c9 = va_up (va_up (va_up (va_up c 13 (.inl (gI G, 121, .inl kk2))) 14 (.inl (gI G, 121, .inl ks2))) 15 (.inl (gI G, 121, .inl kv2))) 12 (.inr (7, [.ref (gad G 13), .ref (gad G 14), .ref (gad G 15), .int (nI kn2)]))) (fun c9 t => Hw G c9 t t.heap) (gA G)) ([.ref (gad G 12), .ref (gad G 9)] : List Value).toArray s 0 0 (gA G)) (F0 m 13 ls []) := by
    intro N
    induction N with
    | zero =>
      intro i  kz sz vz  q0  hN hT hq0 c0 H locs e0 hw hS ls hl
      have k1 : c0 12 = .inr (7, [.ref (gad G 13), .ref (gad G 14), .ref (gad G 15), .int (nI i)]) := by rw [e0]; exact vu_s
      have k2 : c0 13 = .inl (gI G, 121, .inl kz) := by rw [e0]; exact vu_e (by decide) (vu_e (by decide) (vu_e (by decide) vu_s))
      have k3 : c0 14 = .inl (gI G, 121, .inl sz) := by rw [e0]; exact vu_e (by decide) (vu_e (by decide) vu_s)
      have k4 : c0 15 = .inl (gI G, 121, .inl vz) := by rw [e0]; exact vu_e (by decide) vu_s
      have t1 : c0 9 = .inr (6, [.ref (gad G 10), .int (nI tn)]) := by rw [e0]; exact vu_e (by decide) (vu_e (by decide) (vu_e (by decide) (vu_e (by decide) t1)))
      have t2 : c0 10 = .inl (gI G, 120, .inl tf) := by rw [e0]; exact vu_e (by decide) (vu_e (by decide) (vu_e (by decide) (vu_e (by decide) t2)))
      have hFl := fF_le (tf := tf) (tkP_le (tf := tf) (tn := tn) i)
      have hFe : tkF tf tn i = fF tf tn (tkP tf tn i) := rfl
      have hPg := tkP_ge (tf := tf) (tn := tn) i hT.2
      have hEnd : tkF tf tn i = tn := by unfold tkF at *; omega
      refine lv_iload_n hx hb dX8_cut_13 rfl (lv_at hl 0 rfl) ?_
      refine lv_bipush (v := 120) hx hb dX8_cut_14 (by decide) ?_
      refine lv_icmp_ge (tgt := 134) hx hb dX8_cut_16 (by decide) (fun c16 => ?_) (fun q => absurd (nI_le (a := 120) (by omega) (by omega)) q)
      refine lv_aload_n hx hb dX8_cut_134 rfl (lv_at hl 3 rfl) ?_
      refine lv_iconst (v := 0) hx hb dX8_cut_135 (by decide) ?_
      refine lv_aload_n hx hb dX8_cut_136 rfl (lv_at hl 2 rfl) ?_
      refine cSe (rV (As := []) ⟨hx, hb, hml, hown, hts⟩ hw (k_X7_size l t1 t2 htn) (cv_X7_size hts tw_617 rfl rfl ⟨Nat.le_of_ble_eq_true rfl, Nat.le_of_ble_eq_true rfl⟩) (by decide) t1 rfl rfl hl.1 rfl (by first | exact Nat.le_of_ble_eq_true rfl | decide) dX8_cut_137 ⟨Nat.zero_le _, Nat.zero_le _⟩) ?_
      refine lv_iconst (v := 0) hx hb dX8_cut_140 (by decide) ?_
      refine cQv (rV (As := [_, _, _]) ⟨hx, hb, hml, hown, hts⟩ hw (k_X8_add l k1 k2 k3 k4 (by omega) (by omega)) (cv_X8_add hts tw_702 rfl rfl ⟨Nat.le_of_ble_eq_true rfl, Nat.le_of_ble_eq_true rfl⟩) (by decide) k1 rfl rfl hl.1 rfl (by first | exact Nat.le_of_ble_eq_true rfl | decide) dX8_cut_141 ⟨Nat.zero_le _, Nat.zero_le _⟩) hw hS (fun w3 H locs hp141 hw hS => ?_)
      exact re_V hx hb hr hlocks hw hS dX8_cut_144 (⟨i + 1, upd kz i 0, upd sz i (nI tn), upd vz i 0, TKS_of hT (by omega) hEnd, by rw [hp141, e0, up4]⟩)
    | succ N ih =>
      intro i  kz sz vz  q0  hN hT hq0 c0 H locs e0 hw hS ls hl
      have k1 : c0 12 = .inr (7, [.ref (gad G 13), .ref (gad G 14), .ref (gad G 15), .int (nI i)]) := by rw [e0]; exact vu_s
      have k2 : c0 13 = .inl (gI G, 121, .inl kz) := by rw [e0]; exact vu_e (by decide) (vu_e (by decide) (vu_e (by decide) vu_s))
      have k3 : c0 14 = .inl (gI G, 121, .inl sz) := by rw [e0]; exact vu_e (by decide) (vu_e (by decide) vu_s)
      have k4 : c0 15 = .inl (gI G, 121, .inl vz) := by rw [e0]; exact vu_e (by decide) vu_s
      have t1 : c0 9 = .inr (6, [.ref (gad G 10), .int (nI tn)]) := by rw [e0]; exact vu_e (by decide) (vu_e (by decide) (vu_e (by decide) (vu_e (by decide) t1)))
      have t2 : c0 10 = .inl (gI G, 120, .inl tf) := by rw [e0]; exact vu_e (by decide) (vu_e (by decide) (vu_e (by decide) (vu_e (by decide) t2)))
      have hFl := fF_le (tf := tf) (tkP_le (tf := tf) (tn := tn) i)
      have hFe : tkF tf tn i = fF tf tn (tkP tf tn i) := rfl
      refine lv_iload_n hx hb dX8_cut_13 rfl (lv_at hl 0 rfl) ?_
      refine lv_bipush (v := 120) hx hb dX8_cut_14 (by decide) ?_
      refine lv_icmp_ge (tgt := 134) hx hb dX8_cut_16 (by decide) (fun q => absurd q (nI_ge (b := 120) (by omega) (by omega))) (fun c16 => ?_)
      refine lv_iload_n hx hb dX8_cut_19 rfl (lv_at hl 1 rfl) ?_
      refine lv_aload_n hx hb dX8_cut_20 rfl (lv_at hl 2 rfl) ?_
      refine cSe (rV (As := []) ⟨hx, hb, hml, hown, hts⟩ hw (k_X7_size l t1 t2 htn) (cv_X7_size hts tw_617 rfl rfl ⟨Nat.le_of_ble_eq_true rfl, Nat.le_of_ble_eq_true rfl⟩) (by decide) t1 rfl rfl hl.1 rfl (by first | exact Nat.le_of_ble_eq_true rfl | decide) dX8_cut_21 ⟨Nat.zero_le _, Nat.zero_le _⟩) ?_
      refine lv_icmp_ge (tgt := 134) hx hb dX8_cut_24 (by decide) (fun c24 => ?_) (fun c24 => ?_)
      · have hEnd : tkF tf tn i = tn := by have q9 := (nI_leI (by omega) (by unfold tkF at hq0; omega)).mp c24; unfold tkF at *; omega
        refine lv_aload_n hx hb dX8_cut_134 rfl (lv_at hl 3 rfl) ?_
        refine lv_iconst (v := 0) hx hb dX8_cut_135 (by decide) ?_
        refine lv_aload_n hx hb dX8_cut_136 rfl (lv_at hl 2 rfl) ?_
        refine cSe (rV (As := []) ⟨hx, hb, hml, hown, hts⟩ hw (k_X7_size l t1 t2 htn) (cv_X7_size hts tw_617 rfl rfl ⟨Nat.le_of_ble_eq_true rfl, Nat.le_of_ble_eq_true rfl⟩) (by decide) t1 rfl rfl hl.1 rfl (by first | exact Nat.le_of_ble_eq_true rfl | decide) dX8_cut_137 ⟨Nat.zero_le _, Nat.zero_le _⟩) ?_
        refine lv_iconst (v := 0) hx hb dX8_cut_140 (by decide) ?_
        refine cQv (rV (As := [_, _, _]) ⟨hx, hb, hml, hown, hts⟩ hw (k_X8_add l k1 k2 k3 k4 (by omega) (by omega)) (cv_X8_add hts tw_702 rfl rfl ⟨Nat.le_of_ble_eq_true rfl, Nat.le_of_ble_eq_true rfl⟩) (by decide) k1 rfl rfl hl.1 rfl (by first | exact Nat.le_of_ble_eq_true rfl | decide) dX8_cut_141 ⟨Nat.zero_le _, Nat.zero_le _⟩) hw hS (fun w4 H locs hp141 hw hS => ?_)
        exact re_V hx hb hr hlocks hw hS dX8_cut_144 (⟨i + 1, upd kz i 0, upd sz i (nI tn), upd vz i 0, TKS_of hT (by omega) hEnd, by rw [hp141, e0, up4]⟩)
      · have hlt : q0 < tn := (nI_ltI (by omega) (by omega)).mp (Int32.not_le.mp c24)
        have hq0f : q0 = fF tf tn (tkP tf tn i) := hq0
        have htq : tpa tf tn q0 = tf q0 := if_pos hlt
        refine lv_iload_n hx hb dX8_cut_27 rfl (lv_at hl 1 rfl) ?_
        refine lv_iconst (v := 1) hx hb dX8_cut_28 (by decide) ?_
        refine lv_iadd hx hb dX8_cut_29 ?_
        refine tp (y := nI (q0 + 1)) (nI_1 q0) ?_
        refine lv_istore (lv' := [(4, _), (3, _), (2, _), (1, _), (0, _)]) hx hb dX8_cut_30 hl (by decide) rfl (fun ls hl => ?_)
        refine lv_aload_n hx hb dX8_cut_32 rfl (lv_at hl 3 rfl) ?_
        refine lv_iload_n hx hb dX8_cut_33 rfl (lv_at hl 2 rfl) ?_
        refine cSe (rV (As := [_]) ⟨hx, hb, hml, hown, hts⟩ hw (k_X7_at l t1 t2 htn (by omega)) (cv_X7_at hts tw_618 rfl rfl ⟨Nat.le_of_ble_eq_true rfl, Nat.le_of_ble_eq_true rfl⟩) (by decide) t1 rfl rfl hl.1 rfl (by first | exact Nat.le_of_ble_eq_true rfl | decide) dX8_cut_34 ⟨Nat.zero_le _, Nat.zero_le _⟩) ?_
        refine tp (y := tf q0) htq ?_
        refine cSe (rST (As := [_]) ⟨hx, hb, hml, hown, hts⟩ (k_X7_isLetter l ) (cv_X7_isLetter hts tw_619 rfl rfl ⟨Nat.le_of_ble_eq_true rfl, Nat.le_of_ble_eq_true rfl⟩) rfl hl.1 rfl (by first | exact Nat.le_of_ble_eq_true rfl | decide) dX8_cut_37 ⟨Nat.zero_le _, Nat.zero_le _⟩) ?_
        refine zb_eq (tgt := 66) hx hb dX8_cut_40 (by decide) (fun c40 => ?_) (fun c40 => ?_)
        · refine lv_aload_n hx hb dX8_cut_66 rfl (lv_at hl 3 rfl) ?_
          refine lv_iload_n hx hb dX8_cut_67 rfl (lv_at hl 2 rfl) ?_
          refine cSe (rV (As := [_]) ⟨hx, hb, hml, hown, hts⟩ hw (k_X7_at l t1 t2 htn (by omega)) (cv_X7_at hts tw_618 rfl rfl ⟨Nat.le_of_ble_eq_true rfl, Nat.le_of_ble_eq_true rfl⟩) (by decide) t1 rfl rfl hl.1 rfl (by first | exact Nat.le_of_ble_eq_true rfl | decide) dX8_cut_68 ⟨Nat.zero_le _, Nat.zero_le _⟩) ?_
          refine tp (y := tf q0) htq ?_
          refine cSe (rST (As := [_]) ⟨hx, hb, hml, hown, hts⟩ (k_X7_isDigit l ) (cv_X7_isDigit hts tw_706 rfl rfl ⟨Nat.le_of_ble_eq_true rfl, Nat.le_of_ble_eq_true rfl⟩) rfl hl.1 rfl (by first | exact Nat.le_of_ble_eq_true rfl | decide) dX8_cut_71 ⟨Nat.zero_le _, Nat.zero_le _⟩) ?_
          refine zb_eq (tgt := 100) hx hb dX8_cut_74 (by decide) (fun c74 => ?_) (fun c74 => ?_)
          · refine lv_aload_n hx hb dX8_cut_100 rfl (lv_at hl 4 rfl) ?_
            refine lv_aload_n hx hb dX8_cut_101 rfl (lv_at hl 3 rfl) ?_
            refine lv_iload_n hx hb dX8_cut_102 rfl (lv_at hl 2 rfl) ?_
            refine cSe (rV (As := [_]) ⟨hx, hb, hml, hown, hts⟩ hw (k_X7_at l t1 t2 htn (by omega)) (cv_X7_at hts tw_618 rfl rfl ⟨Nat.le_of_ble_eq_true rfl, Nat.le_of_ble_eq_true rfl⟩) (by decide) t1 rfl rfl hl.1 rfl (by first | exact Nat.le_of_ble_eq_true rfl | decide) dX8_cut_103 ⟨Nat.zero_le _, Nat.zero_le _⟩) ?_
            refine tp (y := tf q0) htq ?_
            refine lv_bipush (v := 59) hx hb dX8_cut_106 (by decide) ?_
            refine lv_icmp_ne (tgt := 115) hx hb dX8_cut_108 (by decide) (fun c108 => ?_) (fun c108 => ?_)
            · have hKv : tkK tf tn i = 4 := by unfold tkK kK; rw [← hq0f, if_neg (by omega), if_neg (by rw [show leP tf q0 = false from c40]; decide), if_neg (by rw [show diP tf q0 = false from c74]; decide), if_neg c108]
              have hVv : (0 : Int32) = tkV tf tn i := by unfold tkV vV; rw [← hq0f, if_neg (by omega), if_neg (by rw [show leP tf q0 = false from c40]; decide), if_neg (by rw [show diP tf q0 = false from c74]; decide)]
              have hTv : tT tf tn (tkP tf tn i) = q0 + 1 := by unfold tT; rw [← hq0f, if_neg (by omega), if_neg (by rw [show leP tf q0 = false from c40]; decide), if_neg (by rw [show diP tf q0 = false from c74]; decide)]
              have hK0 : tkK tf tn i ≠ 0 := by rw [hKv]; decide
              have hTl := tT_le (tf := tf) (tkP_le (tf := tf) (tn := tn) i)
              refine lv_iconst (v := 4) hx hb dX8_cut_115 (by decide) ?_
              refine lv_iload_n hx hb dX8_cut_116 rfl (lv_at hl 2 rfl) ?_
              refine lv_iconst (v := 0) hx hb dX8_cut_117 (by decide) ?_
              refine cQv (rV (As := [_, _, _]) ⟨hx, hb, hml, hown, hts⟩ hw (k_X8_add l k1 k2 k3 k4 (by omega) (by omega)) (cv_X8_add hts tw_702 rfl rfl ⟨Nat.le_of_ble_eq_true rfl, Nat.le_of_ble_eq_true rfl⟩) (by decide) k1 rfl rfl hl.1 rfl (by first | exact Nat.le_of_ble_eq_true rfl | decide) dX8_cut_118 ⟨Nat.zero_le _, Nat.zero_le _⟩) hw hS (fun w5 H locs hp118 hw hS => ?_)
              have b1_5 : w5 9 = .inr (6, [.ref (gad G 10), .int (nI tn)]) := by rw [hp118]; exact vu_e (by decide) (vu_e (by decide) (vu_e (by decide) (vu_e (by decide) t1)))
              have b2_5 : w5 10 = .inl (gI G, 120, .inl tf) := by rw [hp118]; exact vu_e (by decide) (vu_e (by decide) (vu_e (by decide) (vu_e (by decide) t2)))
              refine lv_aload_n hx hb dX8_cut_121 rfl (lv_at hl 3 rfl) ?_
              skip
              refine lv_iload hx hb dX8_cut_122 (lv_at hl 0 rfl) ?_
              refine tp (y := nI (tT tf tn (tkP tf tn i))) (by rw [hTv]) ?_
              refine cSe (rV (As := [_]) ⟨hx, hb, hml, hown, hts⟩ hw (k_X7_behindBlanks l b1_5 b2_5 htn (by omega)) (cv_X7_behindBlanks hts tw_609 rfl rfl ⟨Nat.le_of_ble_eq_true rfl, Nat.le_of_ble_eq_true rfl⟩) (by decide) b1_5 rfl rfl hl.1 rfl (by first | exact Nat.le_of_ble_eq_true rfl | decide) dX8_cut_124 ⟨Nat.zero_le _, Nat.zero_le _⟩) ?_
              refine tp (y := nI (tkF tf tn (i + 1))) rfl ?_
              refine lv_istore_n (lv' := [(2, _), (4, _), (3, _), (1, _), (0, _)]) hx hb dX8_cut_127 rfl hl (by decide) rfl (fun ls hl => ?_)
              refine lv_iinc (v := nI (i + 1)) (lv' := [(3, _), (2, _), (4, _), (1, _), (0, _)]) hx hb dX8_cut_128 hl (k := 2) rfl (inc1 i) (by decide) rfl (fun ls hl => ?_)
              refine lv_goto (tgt := 13) hx hb dX8_cut_131 (by decide) ?_
              exact ih (i + 1) (upd kz i (4)) (upd sz i (nI q0)) (upd vz i (0)) _ (by omega) (TKI_s hT hK0 (by rw [hKv]; rfl) (by rw [hq0]) hVv) rfl _ H locs (by rw [hp118, e0, up4]) hw hS ls (lv_sub hl [0, 1, 3, 4] rfl)
            · have hKv : tkK tf tn i = 3 := by unfold tkK kK; rw [← hq0f, if_neg (by omega), if_neg (by rw [show leP tf q0 = false from c40]; decide), if_neg (by rw [show diP tf q0 = false from c74]; decide), if_pos c108]
              have hVv : (0 : Int32) = tkV tf tn i := by unfold tkV vV; rw [← hq0f, if_neg (by omega), if_neg (by rw [show leP tf q0 = false from c40]; decide), if_neg (by rw [show diP tf q0 = false from c74]; decide)]
              have hTv : tT tf tn (tkP tf tn i) = q0 + 1 := by unfold tT; rw [← hq0f, if_neg (by omega), if_neg (by rw [show leP tf q0 = false from c40]; decide), if_neg (by rw [show diP tf q0 = false from c74]; decide)]
              have hK0 : tkK tf tn i ≠ 0 := by rw [hKv]; decide
              have hTl := tT_le (tf := tf) (tkP_le (tf := tf) (tn := tn) i)
              refine lv_iconst (v := 3) hx hb dX8_cut_111 (by decide) ?_
              refine lv_goto (tgt := 116) hx hb dX8_cut_112 (by decide) ?_
              refine lv_iload_n hx hb dX8_cut_116 rfl (lv_at hl 2 rfl) ?_
              refine lv_iconst (v := 0) hx hb dX8_cut_117 (by decide) ?_
              refine cQv (rV (As := [_, _, _]) ⟨hx, hb, hml, hown, hts⟩ hw (k_X8_add l k1 k2 k3 k4 (by omega) (by omega)) (cv_X8_add hts tw_702 rfl rfl ⟨Nat.le_of_ble_eq_true rfl, Nat.le_of_ble_eq_true rfl⟩) (by decide) k1 rfl rfl hl.1 rfl (by first | exact Nat.le_of_ble_eq_true rfl | decide) dX8_cut_118 ⟨Nat.zero_le _, Nat.zero_le _⟩) hw hS (fun w6 H locs hp118 hw hS => ?_)
              have b1_6 : w6 9 = .inr (6, [.ref (gad G 10), .int (nI tn)]) := by rw [hp118]; exact vu_e (by decide) (vu_e (by decide) (vu_e (by decide) (vu_e (by decide) t1)))
              have b2_6 : w6 10 = .inl (gI G, 120, .inl tf) := by rw [hp118]; exact vu_e (by decide) (vu_e (by decide) (vu_e (by decide) (vu_e (by decide) t2)))
              refine lv_aload_n hx hb dX8_cut_121 rfl (lv_at hl 3 rfl) ?_
              skip
              refine lv_iload hx hb dX8_cut_122 (lv_at hl 0 rfl) ?_
              refine tp (y := nI (tT tf tn (tkP tf tn i))) (by rw [hTv]) ?_
              refine cSe (rV (As := [_]) ⟨hx, hb, hml, hown, hts⟩ hw (k_X7_behindBlanks l b1_6 b2_6 htn (by omega)) (cv_X7_behindBlanks hts tw_609 rfl rfl ⟨Nat.le_of_ble_eq_true rfl, Nat.le_of_ble_eq_true rfl⟩) (by decide) b1_6 rfl rfl hl.1 rfl (by first | exact Nat.le_of_ble_eq_true rfl | decide) dX8_cut_124 ⟨Nat.zero_le _, Nat.zero_le _⟩) ?_
              refine tp (y := nI (tkF tf tn (i + 1))) rfl ?_
              refine lv_istore_n (lv' := [(2, _), (4, _), (3, _), (1, _), (0, _)]) hx hb dX8_cut_127 rfl hl (by decide) rfl (fun ls hl => ?_)
              refine lv_iinc (v := nI (i + 1)) (lv' := [(3, _), (2, _), (4, _), (1, _), (0, _)]) hx hb dX8_cut_128 hl (k := 2) rfl (inc1 i) (by decide) rfl (fun ls hl => ?_)
              refine lv_goto (tgt := 13) hx hb dX8_cut_131 (by decide) ?_
              exact ih (i + 1) (upd kz i (3)) (upd sz i (nI q0)) (upd vz i (0)) _ (by omega) (TKI_s hT hK0 (by rw [hKv]; rfl) (by rw [hq0]) hVv) rfl _ H locs (by rw [hp118, e0, up4]) hw hS ls (lv_sub hl [0, 1, 3, 4] rfl)
          · have hKv : tkK tf tn i = 2 := by unfold tkK kK; rw [← hq0f, if_neg (by omega), if_neg (by rw [show leP tf q0 = false from c40]; decide), if_pos (show diP tf q0 = true from c74)]
            have hVv : nmb tf q0 (tT tf tn (tkP tf tn i) - q0) = tkV tf tn i := by unfold tkV vV; rw [← hq0f, if_neg (by omega), if_neg (by rw [show leP tf q0 = false from c40]; decide), if_pos (show diP tf q0 = true from c74)]
            have hTv : tT tf tn (tkP tf tn i) = bhd (diP tf) (tn - q0) q0 := by unfold tT; rw [← hq0f, if_neg (by omega), if_neg (by rw [show leP tf q0 = false from c40]; decide), if_pos (show diP tf q0 = true from c74)]
            have hK0 : tkK tf tn i ≠ 0 := by rw [hKv]; decide
            have hTl := tT_le (tf := tf) (tkP_le (tf := tf) (tn := tn) i)
            refine lv_aload_n hx hb dX8_cut_77 rfl (lv_at hl 3 rfl) ?_
            refine lv_iload_n hx hb dX8_cut_78 rfl (lv_at hl 2 rfl) ?_
            refine cSe (rV (As := [_]) ⟨hx, hb, hml, hown, hts⟩ hw (k_X7_behindDigits l t1 t2 htn (by omega)) (cv_X7_behindDigits hts tw_709 rfl rfl ⟨Nat.le_of_ble_eq_true rfl, Nat.le_of_ble_eq_true rfl⟩) (by decide) t1 rfl rfl hl.1 rfl (by first | exact Nat.le_of_ble_eq_true rfl | decide) dX8_cut_79 ⟨Nat.zero_le _, Nat.zero_le _⟩) ?_
            refine tp (y := nI (tT tf tn (tkP tf tn i))) (by rw [hTv]) ?_
            refine lv_istore (lv' := [(4, _), (3, _), (2, _), (1, _), (0, _)]) hx hb dX8_cut_82 hl (by decide) rfl (fun ls hl => ?_)
            refine lv_aload_n hx hb dX8_cut_84 rfl (lv_at hl 4 rfl) ?_
            refine lv_iconst (v := 2) hx hb dX8_cut_85 (by decide) ?_
            refine lv_iload_n hx hb dX8_cut_86 rfl (lv_at hl 2 rfl) ?_
            refine lv_aload_n hx hb dX8_cut_87 rfl (lv_at hl 3 rfl) ?_
            refine lv_iload_n hx hb dX8_cut_88 rfl (lv_at hl 2 rfl) ?_
            refine lv_iload hx hb dX8_cut_89 (lv_at hl 0 rfl) ?_
            refine cSe (rV (As := [_, _]) ⟨hx, hb, hml, hown, hts⟩ hw (k_X7_numberBetween l t1 t2 htn (by omega) (by omega)) (cv_X7_numberBetween hts tw_714 rfl rfl ⟨Nat.le_of_ble_eq_true rfl, Nat.le_of_ble_eq_true rfl⟩) (by decide) t1 rfl rfl hl.1 rfl (by first | exact Nat.le_of_ble_eq_true rfl | decide) dX8_cut_91 ⟨Nat.zero_le _, Nat.zero_le _⟩) ?_
            refine cQv (rV (As := [_, _, _]) ⟨hx, hb, hml, hown, hts⟩ hw (k_X8_add l k1 k2 k3 k4 (by omega) (by omega)) (cv_X8_add hts tw_702 rfl rfl ⟨Nat.le_of_ble_eq_true rfl, Nat.le_of_ble_eq_true rfl⟩) (by decide) k1 rfl rfl hl.1 rfl (by first | exact Nat.le_of_ble_eq_true rfl | decide) dX8_cut_94 ⟨Nat.zero_le _, Nat.zero_le _⟩) hw hS (fun w7 H locs hp94 hw hS => ?_)
            refine lv_goto (tgt := 121) hx hb dX8_cut_97 (by decide) ?_
            have b1_7 : w7 9 = .inr (6, [.ref (gad G 10), .int (nI tn)]) := by rw [hp94]; exact vu_e (by decide) (vu_e (by decide) (vu_e (by decide) (vu_e (by decide) t1)))
            have b2_7 : w7 10 = .inl (gI G, 120, .inl tf) := by rw [hp94]; exact vu_e (by decide) (vu_e (by decide) (vu_e (by decide) (vu_e (by decide) t2)))
            refine lv_aload_n hx hb dX8_cut_121 rfl (lv_at hl 3 rfl) ?_
            skip
            refine lv_iload hx hb dX8_cut_122 (lv_at hl 0 rfl) ?_
            skip
            refine cSe (rV (As := [_]) ⟨hx, hb, hml, hown, hts⟩ hw (k_X7_behindBlanks l b1_7 b2_7 htn (by omega)) (cv_X7_behindBlanks hts tw_609 rfl rfl ⟨Nat.le_of_ble_eq_true rfl, Nat.le_of_ble_eq_true rfl⟩) (by decide) b1_7 rfl rfl hl.1 rfl (by first | exact Nat.le_of_ble_eq_true rfl | decide) dX8_cut_124 ⟨Nat.zero_le _, Nat.zero_le _⟩) ?_
            refine tp (y := nI (tkF tf tn (i + 1))) rfl ?_
            refine lv_istore_n (lv' := [(2, _), (4, _), (3, _), (1, _), (0, _)]) hx hb dX8_cut_127 rfl hl (by decide) rfl (fun ls hl => ?_)
            refine lv_iinc (v := nI (i + 1)) (lv' := [(3, _), (2, _), (4, _), (1, _), (0, _)]) hx hb dX8_cut_128 hl (k := 2) rfl (inc1 i) (by decide) rfl (fun ls hl => ?_)
            refine lv_goto (tgt := 13) hx hb dX8_cut_131 (by decide) ?_
            exact ih (i + 1) (upd kz i (2)) (upd sz i (nI q0)) (upd vz i (nmb tf q0 (tT tf tn (tkP tf tn i) - q0))) _ (by omega) (TKI_s hT hK0 (by rw [hKv]; rfl) (by rw [hq0]) hVv) rfl _ H locs (by rw [hp94, e0, up4]) hw hS ls (lv_sub hl [0, 1, 3, 4] rfl)
        · have hKv : tkK tf tn i = 1 := by unfold tkK kK; rw [← hq0f, if_neg (by omega), if_pos (show leP tf q0 = true from c40)]
          have hVv : fstU (hsB tf q0 (tT tf tn (tkP tf tn i))) 17 = tkV tf tn i := by unfold tkV vV; rw [← hq0f, if_neg (by omega), if_pos (show leP tf q0 = true from c40)]
          have hTv : tT tf tn (tkP tf tn i) = bhd (leP tf) (tn - q0) q0 := by unfold tT; rw [← hq0f, if_neg (by omega), if_pos (show leP tf q0 = true from c40)]
          have hK0 : tkK tf tn i ≠ 0 := by rw [hKv]; decide
          have hTl := tT_le (tf := tf) (tkP_le (tf := tf) (tn := tn) i)
          refine lv_aload_n hx hb dX8_cut_43 rfl (lv_at hl 3 rfl) ?_
          refine lv_iload_n hx hb dX8_cut_44 rfl (lv_at hl 2 rfl) ?_
          refine cSe (rV (As := [_]) ⟨hx, hb, hml, hown, hts⟩ hw (k_X7_behindLetters l t1 t2 htn (by omega)) (cv_X7_behindLetters hts tw_622 rfl rfl ⟨Nat.le_of_ble_eq_true rfl, Nat.le_of_ble_eq_true rfl⟩) (by decide) t1 rfl rfl hl.1 rfl (by first | exact Nat.le_of_ble_eq_true rfl | decide) dX8_cut_45 ⟨Nat.zero_le _, Nat.zero_le _⟩) ?_
          refine tp (y := nI (tT tf tn (tkP tf tn i))) (by rw [hTv]) ?_
          refine lv_istore (lv' := [(4, _), (3, _), (2, _), (1, _), (0, _)]) hx hb dX8_cut_48 hl (by decide) rfl (fun ls hl => ?_)
          refine lv_aload_n hx hb dX8_cut_50 rfl (lv_at hl 4 rfl) ?_
          refine lv_iconst (v := 1) hx hb dX8_cut_51 (by decide) ?_
          refine lv_iload_n hx hb dX8_cut_52 rfl (lv_at hl 2 rfl) ?_
          refine lv_aload_n hx hb dX8_cut_53 rfl (lv_at hl 3 rfl) ?_
          refine lv_iload_n hx hb dX8_cut_54 rfl (lv_at hl 2 rfl) ?_
          refine lv_iload hx hb dX8_cut_55 (lv_at hl 0 rfl) ?_
          refine cSe (rS (As := [_, _, _]) ⟨hx, hb, hml, hown, hts⟩ hw (k_X8_wordBetween l t1 t2 htn (by omega) (by omega)) (cv_X8_wordBetween hts tw_627 rfl rfl ⟨Nat.le_of_ble_eq_true rfl, Nat.le_of_ble_eq_true rfl⟩) rfl hl.1 rfl (by first | exact Nat.le_of_ble_eq_true rfl | decide) dX8_cut_57 ⟨Nat.zero_le _, Nat.zero_le _⟩) ?_
          refine cQv (rV (As := [_, _, _]) ⟨hx, hb, hml, hown, hts⟩ hw (k_X8_add l k1 k2 k3 k4 (by omega) (by omega)) (cv_X8_add hts tw_702 rfl rfl ⟨Nat.le_of_ble_eq_true rfl, Nat.le_of_ble_eq_true rfl⟩) (by decide) k1 rfl rfl hl.1 rfl (by first | exact Nat.le_of_ble_eq_true rfl | decide) dX8_cut_60 ⟨Nat.zero_le _, Nat.zero_le _⟩) hw hS (fun w8 H locs hp60 hw hS => ?_)
          refine lv_goto (tgt := 121) hx hb dX8_cut_63 (by decide) ?_
          have b1_8 : w8 9 = .inr (6, [.ref (gad G 10), .int (nI tn)]) := by rw [hp60]; exact vu_e (by decide) (vu_e (by decide) (vu_e (by decide) (vu_e (by decide) t1)))
          have b2_8 : w8 10 = .inl (gI G, 120, .inl tf) := by rw [hp60]; exact vu_e (by decide) (vu_e (by decide) (vu_e (by decide) (vu_e (by decide) t2)))
          refine lv_aload_n hx hb dX8_cut_121 rfl (lv_at hl 3 rfl) ?_
          skip
          refine lv_iload hx hb dX8_cut_122 (lv_at hl 0 rfl) ?_
          skip
          refine cSe (rV (As := [_]) ⟨hx, hb, hml, hown, hts⟩ hw (k_X7_behindBlanks l b1_8 b2_8 htn (by omega)) (cv_X7_behindBlanks hts tw_609 rfl rfl ⟨Nat.le_of_ble_eq_true rfl, Nat.le_of_ble_eq_true rfl⟩) (by decide) b1_8 rfl rfl hl.1 rfl (by first | exact Nat.le_of_ble_eq_true rfl | decide) dX8_cut_124 ⟨Nat.zero_le _, Nat.zero_le _⟩) ?_
          refine tp (y := nI (tkF tf tn (i + 1))) rfl ?_
          refine lv_istore_n (lv' := [(2, _), (4, _), (3, _), (1, _), (0, _)]) hx hb dX8_cut_127 rfl hl (by decide) rfl (fun ls hl => ?_)
          refine lv_iinc (v := nI (i + 1)) (lv' := [(3, _), (2, _), (4, _), (1, _), (0, _)]) hx hb dX8_cut_128 hl (k := 2) rfl (inc1 i) (by decide) rfl (fun ls hl => ?_)
          refine lv_goto (tgt := 13) hx hb dX8_cut_131 (by decide) ?_
          exact ih (i + 1) (upd kz i (1)) (upd sz i (nI q0)) (upd vz i (fstU (hsB tf q0 (tT tf tn (tkP tf tn i))) 17)) _ (by omega) (TKI_s hT hK0 (by rw [hKv]; rfl) (by rw [hq0]) hVv) rfl _ H locs (by rw [hp60, e0, up4]) hw hS ls (lv_sub hl [0, 1, 3, 4] rfl)
  exact L13 120 0 kk ks kv _ (by omega) ⟨fun k hk => absurd hk (Nat.not_lt_zero _), fun k hk => absurd hk (Nat.not_lt_zero _)⟩ rfl _ H locs (by rw [ew2, up_id k2, up_id k3, up_id k4]) hw hS ls (lv_sub hl [0, 1, 3, 2] rfl)
