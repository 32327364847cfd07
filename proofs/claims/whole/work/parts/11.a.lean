/-! THE REFERENCE: its object at 32, its clauses at 33, the marked ones at 34 -/
theorem m1_lt (q : Nat) (hq : q < 2 ^ 31) : (-1 : Int32) < nI q := by
  rw [Int32.lt_iff_toInt_lt, nI_toInt hq]
  have : (-1 : Int32).toInt = -1 := by decide
  omega
theorem wn_has {n : Nat} {x : Int32} (hn : n ≤ 12) : wn x 0 (nI n - 1) = hasN n x := by
  unfold wn hasN
  by_cases h : x < 0
  · simp [h]
  · obtain ⟨q, hq, rfl⟩ := nI_of h
    rcases Nat.eq_zero_or_pos n with h0 | h0
    · subst h0
      have h1 : nI 0 - 1 < nI q := m1_lt q hq
      have h2 : ¬ nI q < nI 0 := h
      simp [h1, h2]
    · rw [ixp h0]
      have e : (nI (n - 1) < nI q) ↔ ¬ nI q < nI n := by
        rw [nI_ltI (by omega) hq, nI_ltI hq (by omega)]
        omega
      by_cases h1 : nI q < nI n
      · have h2 : ¬ nI (n - 1) < nI q := fun z => e.mp z h1
        simp [h1, h2]
      · have h2 : nI (n - 1) < nI q := e.mpr h1
        simp [h1, h2]
theorem wn00 (t : Int32) : wn t 0 0 = decide (t = 0) := by
  unfold wn
  by_cases h : t = 0
  · subst h; decide
  · have : t < 0 ∨ 0 < t := by
      rw [Int32.lt_iff_toInt_lt, Int32.lt_iff_toInt_lt]
      have h1 : t.toInt ≠ (0 : Int32).toInt := fun e => h (Int32.toInt_inj.mp e)
      omega
    rcases this with h1 | h1 <;> simp [h, h1]
theorem sp_eq {a b : Int32} (ha : isDy a = true) : wn b a 999 = (isDy b && !decide (b < a)) := by
  unfold isDy wn at *
  simp only [Bool.and_eq_true, Bool.not_eq_true', decide_eq_false_iff_not] at ha
  by_cases h : b < a
  · simp [h]
  · have h0 : ¬ b < 0 := fun q => h (by rw [Int32.lt_iff_toInt_lt] at *; rw [Int32.lt_iff_toInt_lt] at ha; omega)
    simp [h, h0]
/-- what a clause's numbers may be -/
def cIv (f : Nat → Int32) (c : Nat) : Prop := wn (f (c * 11)) 0 5 = true ∧ wn (f (c * 11 + 4)) 0 4 = true ∧ wn (f (c * 11 + 6)) 0 999 = true ∧ wn (f (c * 11 + 7)) (if f (c * 11 + 4) = 1 then 1 else 0) 99 = true ∧ isDy (f (c * 11 + 8)) = true ∧ isDy (f (c * 11 + 9)) = true ∧ wn (f (c * 11 + 10)) (-1) (nI c - 1) = true
def cI (f : Nat → Int32) (n : Nat) : Prop := ∀ c, c < n → cIv f c
def mskD (P : Nat → Bool) (n : Nat) : Nat → Int32
  | 0 => 0
  | i + 1 => if P (n - 1 - i) then mskD P n i ||| ((1 : Int32) <<< (nI (n - 1 - i) &&& 31)) else mskD P n i
theorem mskD_s {P : Nat → Bool} {n N : Nat} (h : N + 1 ≤ n) : mskD P n (n - N) = if P N then mskD P n (n - (N + 1)) ||| ((1 : Int32) <<< (nI N &&& 31)) else mskD P n (n - (N + 1)) := by
  rw [show n - N = (n - (N + 1)) + 1 by omega, mskD, show n - 1 - (n - (N + 1)) = N by omega]
theorem bt_one {n i : Nat} (hn : n < 32) (hi : i < 32) : bt ((1 : Int32) <<< (nI n &&& 31)) i = decide (i = n) := by
  rw [b_shl n hn _ hi]
  have h1 : ∀ j, j < 32 → bt 1 j = decide (j = 0) := by decide +kernel
  rw [h1 (i - n) (by omega)]
  by_cases h : n ≤ i
  · simp only [h, decide_true, Bool.true_and, decide_eq_decide]; omega
  · simp only [h, decide_false, Bool.false_and]; rw [eq_comm, decide_eq_false_iff_not]; omega
theorem bt_mskD {P : Nat → Bool} {n : Nat} (hn : n ≤ 32) : ∀ k, k ≤ n → ∀ i, i < 32 → bt (mskD P n k) i = (decide (n - k ≤ i ∧ i < n) && P i)
  | 0, _, i, _ => by
    rw [mskD, b_0]
    have : ¬ (n - 0 ≤ i ∧ i < n) := by omega
    simp only [this, decide_false, Bool.false_and]
  | k + 1, hk, i, hi => by
    have ih := bt_mskD (P := P) hn k (by omega) i hi
    rw [mskD]
    by_cases hp : P (n - 1 - k) = true
    · rw [if_pos hp, b_or, ih, bt_one (by omega) hi]
      by_cases hin : i = n - 1 - k
      · have h1 : n - (k + 1) ≤ i ∧ i < n := by omega
        rw [hin] at h1 ⊢
        simp [h1, hp]
      · have : (decide (n - (k + 1) ≤ i ∧ i < n)) = decide (n - k ≤ i ∧ i < n) := by rw [decide_eq_decide]; omega
        rw [this]; simp [hin]
    · rw [if_neg hp, ih]
      by_cases hin : i = n - 1 - k
      · rw [hin]; simp [hp]
      · have : (decide (n - (k + 1) ≤ i ∧ i < n)) = decide (n - k ≤ i ∧ i < n) := by rw [decide_eq_decide]; omega
        rw [this]
theorem mskD_U {P : Nat → Bool} {n : Nat} (hn : n ≤ 32) : mskD P n n = mskU P n := b_ext fun i hi => by
  rw [bt_mskD hn n (Nat.le_refl n) i hi, bt_mskU n hn i hi, Nat.sub_self]
  congr 1
  rw [decide_eq_decide]
  omega
theorem or0 (x : Int32) : x ||| 0 = x := b_ext fun i _ => by rw [b_or, b_0, Bool.or_false]
/-- the reference's grant is the class's -/
theorem wor_2 {a b : Int32} {v : Nat} (ha : wn a 0 999 = true) (hb : wn b 0 99 = true) (hv : v < 100) : (if b * nI v < a then a - b * nI v else 0) = (if 0 < a - b * nI v then a - b * nI v else 0) := by
  obtain ⟨a, -, ha2, rfl⟩ := wn_nI (a := 0) (b := 999) (by decide) (by decide) ha
  obtain ⟨b, -, hb2, rfl⟩ := wn_nI (a := 0) (b := 99) (by decide) (by decide) hb
  rw [pk_mul]
  have hbv : b * v ≤ 99 * 99 := Nat.mul_le_mul hb2 (by omega)
  have e := pk_sub_toInt (a := a) (b := b * v) (by omega) (by omega)
  have h1 : nI (b * v) < nI a ↔ 0 < nI a - nI (b * v) := by
    rw [nI_ltI (by omega) (by omega), Int32.lt_iff_toInt_lt, e]
    have : (0 : Int32).toInt = 0 := by decide
    omega
  by_cases h : nI (b * v) < nI a
  · rw [if_pos h, if_pos (h1.mp h)]
  · rw [if_neg h, if_neg (fun q => h (h1.mpr q))]
theorem wor_4 (a v : Int32) : (if a < v then a else v) = (if v < a then v else a) := by
  by_cases h : a < v
  · have h2 : ¬ v < a := fun q => by rw [Int32.lt_iff_toInt_lt] at h q; omega
    rw [if_pos h, if_neg h2]
  · rw [if_neg h]
    by_cases h2 : v < a
    · rw [if_pos h2]
    · rw [if_neg h2]
      apply Int32.toInt_inj.mp
      rw [Int32.lt_iff_toInt_lt] at h h2
      omega
theorem mulc (a b : Int32) : a * b = b * a := Int32.mul_comm a b
theorem i5 {x : Int32} (h : wn x 0 5 = true) (hs : x.toInt < 0 ∨ 4 < x.toInt) : x = 5 := by
  obtain ⟨q, -, hq, rfl⟩ := wn_nI (a := 0) (b := 5) (by decide) (by decide) h
  rw [nI_toInt (by omega)] at hs
  have : q = 5 := by omega
  rw [this]
  rfl
theorem i4 {x : Int32} (h : wn x 0 4 = true) (hs : x.toInt < 0 ∨ 3 < x.toInt) : x = 4 := by
  obtain ⟨q, -, hq, rfl⟩ := wn_nI (a := 0) (b := 4) (by decide) (by decide) h
  rw [nI_toInt (by omega)] at hs
  have : q = 4 := by omega
  rw [this]
  rfl
theorem tr_mod {p : Nat} {t : Int32} (hp : p < 25600000) : nI p / nI (wtN t) - nI p / nI (wtN t) / (if t < 2 then 100 else if t = 2 then 10 else if t = 3 then 8 else 32) * (if t < 2 then 100 else if t = 2 then 10 else if t = 3 then 8 else 32) = nI (trN p t) := by
  by_cases h0 : t = 0
  · subst h0
    show nI p / nI 1 - nI p / nI 1 / nI 100 * nI 100 = nI (p % 100)
    rw [pk_div (by omega) (by decide) (by decide), Nat.div_one]
    exact pk_rem (by omega) (by decide) (by decide)
  by_cases h1 : t = 1
  · subst h1
    show nI p / nI 100 - nI p / nI 100 / nI 100 * nI 100 = nI (p / 100 % 100)
    rw [pk_div (by omega) (by decide) (by decide)]
    exact pk_rem (by omega) (by decide) (by decide)
  by_cases h2 : t = 2
  · subst h2
    show nI p / nI 10000 - nI p / nI 10000 / nI 10 * nI 10 = nI (p / 10000 % 10)
    rw [pk_div (by omega) (by decide) (by decide)]
    exact pk_rem (by omega) (by decide) (by decide)
  by_cases h3 : t = 3
  · subst h3
    show nI p / nI 100000 - nI p / nI 100000 / nI 8 * nI 8 = nI (p / 100000 % 8)
    rw [pk_div (by omega) (by decide) (by decide)]
    exact pk_rem (by omega) (by decide) (by decide)
  have ew : wtN t = 800000 := by rw [wtN, if_neg h0, if_neg h1, if_neg h2, if_neg h3]
  have et : trN p t = p / 800000 := by rw [trN, if_neg h0, if_neg h1, if_neg h2, if_neg h3]
  rw [ew, et, if_neg h2, if_neg h3, pk_div (by omega) (by decide) (by decide)]
  by_cases h4 : t < 2
  · rw [if_pos h4]
    have := pk_rem (a := p / 800000) (d := 100) (by omega) (by decide) (by decide)
    rw [Nat.mod_eq_of_lt (by omega)] at this
    exact this
  · rw [if_neg h4]
    have := pk_rem (a := p / 800000) (d := 32) (by omega) (by decide) (by decide)
    rw [Nat.mod_eq_of_lt (by omega)] at this
    exact this
theorem wt_ne0 (t : Int32) : ¬ nI (wtN t) = 0 := by
  unfold wtN
  repeat' split
  all_goals decide
theorem sz_ne0 (t : Int32) : ¬ (if t < 2 then (100 : Int32) else if t = 2 then 10 else if t = 3 then 8 else 32) = 0 := by
  repeat' split
  all_goals decide

set_option maxHeartbeats 4000000 in
set_option maxRecDepth 100000 in
theorem k_X11_traitOf (l : Launch) {p0 : Nat} {t : Int32} (hp0 : p0 < 25600000) : Met l yX11_traitOf (wv yX11_traitOf cX11_traitOf 2 (some .int)) ({ frames := 1, cells := 0, slots := 0, locals := 20 } : Room) (va_Pc [.int (nI p0), .int t] (fun _ => True)) (vp_Si (fun r => r = nI (trN p0 t))) 0 0 (fun _ => False) := by
  refine en (by decide +kernel) (by first | exact Nat.le_of_ble_eq_true rfl | decide) ?_
  intro p e s m below meth cd ls hx hb hr hml hown hts hlocks hnm hw hl
  have hl : lv_has ls 2 [(0, .int (nI p0)), (1, .int t)] := hl
  refine lv_iload_n hx hb dX11_traitOf_0 rfl (lv_at hl 0 rfl) ?_
  refine lv_iload_n hx hb dX11_traitOf_1 rfl (lv_at hl 1 rfl) ?_
  refine cSe (rST (As := [_]) ⟨hx, hb, hml, hown, hts⟩ (k_X11_by l ) (cv_X11_by hts tw_1037 rfl rfl ⟨Nat.le_of_ble_eq_true rfl, Nat.le_of_ble_eq_true rfl⟩) rfl hl.1 rfl (by first | exact Nat.le_of_ble_eq_true rfl | decide) dX11_traitOf_2 ⟨Nat.zero_le _, Nat.zero_le _⟩) ?_
  refine lv_idiv hx hb dX11_traitOf_5 (wt_ne0 t) ?_
  refine lv_iload_n hx hb dX11_traitOf_6 rfl (lv_at hl 1 rfl) ?_
  refine cSe (rST (As := [_]) ⟨hx, hb, hml, hown, hts⟩ (k_X11_sizeOf l ) (cv_X11_sizeOf hts tw_1040 rfl rfl ⟨Nat.le_of_ble_eq_true rfl, Nat.le_of_ble_eq_true rfl⟩) rfl hl.1 rfl (by first | exact Nat.le_of_ble_eq_true rfl | decide) dX11_traitOf_7 ⟨Nat.zero_le _, Nat.zero_le _⟩) ?_
  refine lv_irem hx hb dX11_traitOf_10 (sz_ne0 t) ?_
  exact re_S hx hb hr hlocks (rfl) dX11_traitOf_11 (tr_mod hp0)
set_option maxHeartbeats 4000000 in
set_option maxRecDepth 100000 in
theorem k_X11_with (l : Launch) {p0 v : Nat} {t : Int32} (hp0 : p0 < 25600000) (ht : t = 0 ∨ t = 1 ∨ t = 2 ∨ t = 3) : Met l yX11_with (wv yX11_with cX11_with 3 (some .int)) ({ frames := 2, cells := 0, slots := 0, locals := 41 } : Room) (va_Pc [.int (nI p0), .int t, .int (nI v)] (fun _ => True)) (vp_Si (fun r => r = nI (wthN p0 t v))) 0 0 (fun _ => False) := by
  refine en (by decide +kernel) (by first | exact Nat.le_of_ble_eq_true rfl | decide) ?_
  intro p e s m below meth cd ls hx hb hr hml hown hts hlocks hnm hw hl
  have hl : lv_has ls 3 [(0, .int (nI p0)), (1, .int t), (2, .int (nI v))] := hl
  refine lv_iload_n hx hb dX11_with_0 rfl (lv_at hl 0 rfl) ?_
  refine lv_iload_n hx hb dX11_with_1 rfl (lv_at hl 2 rfl) ?_
  refine lv_iload_n hx hb dX11_with_2 rfl (lv_at hl 0 rfl) ?_
  refine lv_iload_n hx hb dX11_with_3 rfl (lv_at hl 1 rfl) ?_
  refine cSe (rST (As := [_, _]) ⟨hx, hb, hml, hown, hts⟩ (k_X11_traitOf l hp0) (cv_X11_traitOf hts tw_1034 rfl rfl ⟨Nat.le_of_ble_eq_true rfl, Nat.le_of_ble_eq_true rfl⟩) rfl hl.1 rfl (by first | exact Nat.le_of_ble_eq_true rfl | decide) dX11_with_4 ⟨Nat.zero_le _, Nat.zero_le _⟩) ?_
  refine lv_isub hx hb dX11_with_7 ?_
  refine lv_iload_n hx hb dX11_with_8 rfl (lv_at hl 1 rfl) ?_
  refine cSe (rST (As := [_]) ⟨hx, hb, hml, hown, hts⟩ (k_X11_by l ) (cv_X11_by hts tw_1037 rfl rfl ⟨Nat.le_of_ble_eq_true rfl, Nat.le_of_ble_eq_true rfl⟩) rfl hl.1 rfl (by first | exact Nat.le_of_ble_eq_true rfl | decide) dX11_with_9 ⟨Nat.zero_le _, Nat.zero_le _⟩) ?_
  refine lv_imul hx hb dX11_with_12 ?_
  refine lv_iadd hx hb dX11_with_13 ?_
  exact re_S hx hb hr hlocks (rfl) dX11_with_14 (wth_eq ht)
set_option maxHeartbeats 4000000 in
set_option maxRecDepth 100000 in
theorem k_X11_isTrait_t (l : Launch) {t : Int32} : Met l yX11_isTrait (wv yX11_isTrait cX11_isTrait 2 (some .boolean)) ({ frames := 1, cells := 0, slots := 0, locals := 22 } : Room) (va_Pc [.int 1, .int t] (fun _ => True)) (vp_Si (fun r => r = bi (wn t 0 3))) 0 0 (fun _ => False) := by
  refine en (by decide +kernel) (by first | exact Nat.le_of_ble_eq_true rfl | decide) ?_
  intro p e s m below meth cd ls hx hb hr hml hown hts hlocks hnm hw hl
  have hl : lv_has ls 2 [(0, .int 1), (1, .int t)] := hl
  refine lv_iload_n hx hb dX11_isTrait_0 rfl (lv_at hl 0 rfl) ?_
  refine lv_if_eq (tgt := 13) hx hb dX11_isTrait_1 (by decide) (fun q => absurd q (by decide)) (fun c1 => ?_)
  refine lv_iload_n hx hb dX11_isTrait_4 rfl (lv_at hl 1 rfl) ?_
  refine lv_iconst (v := 0) hx hb dX11_isTrait_5 (by decide) ?_
  refine lv_iconst (v := 3) hx hb dX11_isTrait_6 (by decide) ?_
  refine cSe (rST (As := [_, _, _]) ⟨hx, hb, hml, hown, hts⟩ (k_X11_in l ) (cv_X11_in hts tw_987 rfl rfl ⟨Nat.le_of_ble_eq_true rfl, Nat.le_of_ble_eq_true rfl⟩) rfl hl.1 rfl (by first | exact Nat.le_of_ble_eq_true rfl | decide) dX11_isTrait_7 ⟨Nat.zero_le _, Nat.zero_le _⟩) ?_
  refine lv_goto (tgt := 22) hx hb dX11_isTrait_10 (by decide) ?_
  exact re_S hx hb hr hlocks (bi_n _) dX11_isTrait_22 (rfl)
set_option maxHeartbeats 4000000 in
set_option maxRecDepth 100000 in
theorem k_X11_isTrait_f (l : Launch) {t : Int32} : Met l yX11_isTrait (wv yX11_isTrait cX11_isTrait 2 (some .boolean)) ({ frames := 0, cells := 0, slots := 0, locals := 0 } : Room) (va_Pc [.int 0, .int t] (fun _ => True)) (vp_Si (fun r => r = bi (wn t 0 0))) 0 0 (fun _ => False) := by
  refine en (by decide +kernel) (by first | exact Nat.le_of_ble_eq_true rfl | decide) ?_
  intro p e s m below meth cd ls hx hb hr hml hown hts hlocks hnm hw hl
  have hl : lv_has ls 2 [(0, .int 0), (1, .int t)] := hl
  refine lv_iload_n hx hb dX11_isTrait_0 rfl (lv_at hl 0 rfl) ?_
  refine lv_if_eq (tgt := 13) hx hb dX11_isTrait_1 (by decide) (fun c1 => ?_) (fun q => absurd (rfl) q)
  refine lv_iload_n hx hb dX11_isTrait_13 rfl (lv_at hl 1 rfl) ?_
  refine lv_if_ne (tgt := 21) hx hb dX11_isTrait_14 (by decide) (fun c14 => ?_) (fun c14 => ?_)
  · refine lv_iconst (v := 0) hx hb dX11_isTrait_21 (by decide) ?_
    exact re_S hx hb hr hlocks (rfl) dX11_isTrait_22 (by rw [wn00]; simp [bi, c14])
  · refine lv_iconst (v := 1) hx hb dX11_isTrait_17 (by decide) ?_
    refine lv_goto (tgt := 22) hx hb dX11_isTrait_18 (by decide) ?_
    exact re_S hx hb hr hlocks (rfl) dX11_isTrait_22 (by rw [wn00]; simp [bi, c14])
set_option maxHeartbeats 4000000 in
set_option maxRecDepth 100000 in
theorem k_X11_isLess_g (l : Launch) {t b : Int32} : Met l yX11_isLess (wv yX11_isLess cX11_isLess 2 (some .boolean)) ({ frames := 1, cells := 0, slots := 0, locals := 22 } : Room) (va_Pc [.int t, .int b] (fun _ => True)) (vp_Si (fun r => r = bi (wn b (if t = 1 then 1 else 0) (if t = 1 then 99 else if t = 2 then 99 else 0)))) 0 0 (fun _ => False) := by
  refine en (by decide +kernel) (by first | exact Nat.le_of_ble_eq_true rfl | decide) ?_
  intro p e s m below meth cd ls hx hb hr hml hown hts hlocks hnm hw hl
  have hl : lv_has ls 2 [(0, .int t), (1, .int b)] := hl
  refine lv_iload_n hx hb dX11_isLess_0 rfl (lv_at hl 0 rfl) ?_
  refine lv_iconst (v := 1) hx hb dX11_isLess_1 (by decide) ?_
  refine lv_icmp_ne (tgt := 15) hx hb dX11_isLess_2 (by decide) (fun c2 => ?_) (fun c2 => ?_)
  · refine lv_iload_n hx hb dX11_isLess_15 rfl (lv_at hl 0 rfl) ?_
    refine lv_iconst (v := 2) hx hb dX11_isLess_16 (by decide) ?_
    refine lv_icmp_ne (tgt := 30) hx hb dX11_isLess_17 (by decide) (fun c17 => ?_) (fun c17 => ?_)
    · refine lv_iload_n hx hb dX11_isLess_30 rfl (lv_at hl 1 rfl) ?_
      refine lv_if_ne (tgt := 38) hx hb dX11_isLess_31 (by decide) (fun c31 => ?_) (fun c31 => ?_)
      · refine lv_iconst (v := 0) hx hb dX11_isLess_38 (by decide) ?_
        exact re_S hx hb hr hlocks (rfl) dX11_isLess_39 (by rw [if_neg c2, if_neg c2, if_neg c17]; rw [wn00]; simp [bi, c31])
      · refine lv_iconst (v := 1) hx hb dX11_isLess_34 (by decide) ?_
        refine lv_goto (tgt := 39) hx hb dX11_isLess_35 (by decide) ?_
        exact re_S hx hb hr hlocks (rfl) dX11_isLess_39 (by rw [if_neg c2, if_neg c2, if_neg c17]; rw [wn00]; simp [bi, c31])
    · refine lv_iload_n hx hb dX11_isLess_20 rfl (lv_at hl 1 rfl) ?_
      refine lv_iconst (v := 0) hx hb dX11_isLess_21 (by decide) ?_
      refine lv_bipush (v := 99) hx hb dX11_isLess_22 (by decide) ?_
      refine cSe (rST (As := [_, _, _]) ⟨hx, hb, hml, hown, hts⟩ (k_X11_in l ) (cv_X11_in hts tw_987 rfl rfl ⟨Nat.le_of_ble_eq_true rfl, Nat.le_of_ble_eq_true rfl⟩) rfl hl.1 rfl (by first | exact Nat.le_of_ble_eq_true rfl | decide) dX11_isLess_24 ⟨Nat.zero_le _, Nat.zero_le _⟩) ?_
      refine lv_goto (tgt := 39) hx hb dX11_isLess_27 (by decide) ?_
      exact re_S hx hb hr hlocks (bi_n _) dX11_isLess_39 (by rw [if_neg c2, if_neg c2, if_pos c17])
  · refine lv_iload_n hx hb dX11_isLess_5 rfl (lv_at hl 1 rfl) ?_
    refine lv_iconst (v := 1) hx hb dX11_isLess_6 (by decide) ?_
    refine lv_bipush (v := 99) hx hb dX11_isLess_7 (by decide) ?_
    refine cSe (rST (As := [_, _, _]) ⟨hx, hb, hml, hown, hts⟩ (k_X11_in l ) (cv_X11_in hts tw_987 rfl rfl ⟨Nat.le_of_ble_eq_true rfl, Nat.le_of_ble_eq_true rfl⟩) rfl hl.1 rfl (by first | exact Nat.le_of_ble_eq_true rfl | decide) dX11_isLess_9 ⟨Nat.zero_le _, Nat.zero_le _⟩) ?_
    refine lv_goto (tgt := 39) hx hb dX11_isLess_12 (by decide) ?_
    exact re_S hx hb hr hlocks (bi_n _) dX11_isLess_39 (by rw [if_pos c2, if_pos c2])
set_option maxHeartbeats 4000000 in
set_option maxRecDepth 100000 in
theorem k_X11_isClause (l : Launch) {G : GT} {c : Nat → va_E} {n n1 rn tn n2 qn : Nat} {z hd sd fr tto tk wo iz : Int32} {im : Bool} (o1 : c 32 = .inr (9, [.ref (gad G 33), .ref (gad G 34), .ref (gad G 35), .int (nI n), .int (nI n1), .int z, .int hd, .int sd, .ref (gad G 36), .ref (gad G 37), .int (nI rn), .ref (gad G 38), .int (nI tn), .int fr, .int tto, .int tk, .int wo, .ref (gad G 39), .ref (gad G 40), .ref (gad G 41), .ref (gad G 42), .ref (gad G 43), .ref (gad G 44), .int (nI n2), .int (nI qn), .int iz, .int (bi im)])) {f : Nat → Int32} (a1 : c 33 = .inl (gI G, 132, .inl f)) (hn : n ≤ 12) {x : Int32} : Met l yX11_isClause (wv yX11_isClause cX11_isClause 2 (some .boolean)) ({ frames := 1, cells := 0, slots := 0, locals := 22 } : Room) (va_Pc [.ref (gad G 32), .int x] (fun U => Hw G c U U.heap)) (vp_Si (fun r => r = bi (hasN n x))) 0 0 (fun _ => False) := by
  refine en (by decide +kernel) (by first | exact Nat.le_of_ble_eq_true rfl | decide) ?_
  intro p e s m below meth cd ls hx hb hr hml hown hts hlocks hnm hw hl
  have hl : lv_has ls 2 [(0, .ref (gad G 32)), (1, .int x)] := hl
  refine lv_iload_n hx hb dX11_isClause_0 rfl (lv_at hl 1 rfl) ?_
  refine lv_iconst (v := 0) hx hb dX11_isClause_1 (by decide) ?_
  refine lv_aload_n hx hb dX11_isClause_2 rfl (lv_at hl 0 rfl) ?_
  refine w_get (C := RX11) (T := TX11) (N := 27) 3 hx hb hts inX11 hown hw (by decide) o1 rfl (by decide) (hts _ tw_888) rfl dX11_isClause_3 ?_
  refine lv_iconst (v := 1) hx hb dX11_isClause_6 (by decide) ?_
  refine lv_isub hx hb dX11_isClause_7 ?_
  refine cSe (rST (As := [_, _, _]) ⟨hx, hb, hml, hown, hts⟩ (k_X11_in l ) (cv_X11_in hts tw_987 rfl rfl ⟨Nat.le_of_ble_eq_true rfl, Nat.le_of_ble_eq_true rfl⟩) rfl hl.1 rfl (by first | exact Nat.le_of_ble_eq_true rfl | decide) dX11_isClause_8 ⟨Nat.zero_le _, Nat.zero_le _⟩) ?_
  exact re_S hx hb hr hlocks (bi_n _) dX11_isClause_11 (by rw [wn_has hn])
set_option maxHeartbeats 4000000 in
set_option maxRecDepth 100000 in
theorem k_X11_is (l : Launch) {G : GT} {c : Nat → va_E} {n n1 rn tn n2 qn : Nat} {z hd sd fr tto tk wo iz : Int32} {im : Bool} (o1 : c 32 = .inr (9, [.ref (gad G 33), .ref (gad G 34), .ref (gad G 35), .int (nI n), .int (nI n1), .int z, .int hd, .int sd, .ref (gad G 36), .ref (gad G 37), .int (nI rn), .ref (gad G 38), .int (nI tn), .int fr, .int tto, .int tk, .int wo, .ref (gad G 39), .ref (gad G 40), .ref (gad G 41), .ref (gad G 42), .ref (gad G 43), .ref (gad G 44), .int (nI n2), .int (nI qn), .int iz, .int (bi im)])) {f : Nat → Int32} (a1 : c 33 = .inl (gI G, 132, .inl f)) (hn : n ≤ 12) {x y : Int32} {q : Nat} (hq : 11 * x + y = nI q) (hq2 : q < 132) : Met l yX11_is (wv yX11_is cX11_is 3 (some .int)) ({ frames := 0, cells := 0, slots := 0, locals := 0 } : Room) (va_Pc [.ref (gad G 32), .int x, .int y] (fun U => Hw G c U U.heap)) (vp_Si (fun r => r = f q)) 0 0 (fun _ => False) := by
  refine en (by decide +kernel) (by first | exact Nat.le_of_ble_eq_true rfl | decide) ?_
  intro p e s m below meth cd ls hx hb hr hml hown hts hlocks hnm hw hl
  have hl : lv_has ls 3 [(0, .ref (gad G 32)), (1, .int x), (2, .int y)] := hl
  refine lv_aload_n hx hb dX11_is_0 rfl (lv_at hl 0 rfl) ?_
  refine w_get (C := RX11) (T := TX11) (N := 27) 0 hx hb hts inX11 hown hw (by decide) o1 rfl (by decide) (hts _ tw_885) rfl dX11_is_1 ?_
  refine lv_bipush (v := 11) hx hb dX11_is_4 (by decide) ?_
  refine lv_iload_n hx hb dX11_is_6 rfl (lv_at hl 1 rfl) ?_
  refine lv_imul hx hb dX11_is_7 ?_
  refine lv_iload_n hx hb dX11_is_8 rfl (lv_at hl 2 rfl) ?_
  refine lv_iadd hx hb dX11_is_9 ?_
  refine w_ialdN (j := q) hx hb hw (by decide) a1 (hq) (hq2) (by decide) dX11_is_10 ?_
  exact re_S hx hb hr hlocks (rfl) dX11_is_11 (rfl)
set_option maxHeartbeats 4000000 in
set_option maxRecDepth 100000 in
theorem k_X11_sets (l : Launch) {G : GT} {c : Nat → va_E} {n n1 rn tn n2 qn : Nat} {z hd sd fr tto tk wo iz : Int32} {im : Bool} (o1 : c 32 = .inr (9, [.ref (gad G 33), .ref (gad G 34), .ref (gad G 35), .int (nI n), .int (nI n1), .int z, .int hd, .int sd, .ref (gad G 36), .ref (gad G 37), .int (nI rn), .ref (gad G 38), .int (nI tn), .int fr, .int tto, .int tk, .int wo, .ref (gad G 39), .ref (gad G 40), .ref (gad G 41), .ref (gad G 42), .ref (gad G 43), .ref (gad G 44), .int (nI n2), .int (nI qn), .int iz, .int (bi im)])) {f : Nat → Int32} (a1 : c 33 = .inl (gI G, 132, .inl f)) (hn : n ≤ 12) {x y v : Int32} {q : Nat} (hq : 11 * x + y = nI q) (hq2 : q < 132) : Met l yX11_sets (wv yX11_sets cX11_sets 4 none) ({ frames := 0, cells := 0, slots := 0, locals := 0 } : Room) (va_Pc [.ref (gad G 32), .int x, .int y, .int v] (fun U => Hw G c U U.heap)) (va_Qv (fun c9 : Nat → va_E => c9 = va_up c 33 (.inl (gI G, 132, .inl (upd f q v)))) (fun c9 t => Hw G c9 t t.heap) (gA G)) 0 0 (gA G) := by
  refine en (by decide +kernel) (by first | exact Nat.le_of_ble_eq_true rfl | decide) ?_
  intro p e s m below meth cd ls hx hb hr hml hown hts hlocks hnm hw hl
  have hl : lv_has ls 4 [(0, .ref (gad G 32)), (1, .int x), (2, .int y), (3, .int v)] := hl
  have hX : Sw G s s.heap := hw.2.2.2.2.2
  have hS : va_S (gA G) s.heap s.heap [] := va_S.rf
  obtain ⟨H, hH⟩ : ∃ wz9, wz9 = s.heap := ⟨_, rfl⟩
  obtain ⟨locs, hlocs⟩ : ∃ wz9 : List Loc, wz9 = [] := ⟨_, rfl⟩
  have hw : Hw G c s H := by rw [hH]; exact hw
  have hS : va_S (gA G) s.heap H locs := by rw [hH, hlocs]; exact hS
  suffices hgo : W p l e ({ frames := 0, cells := 0, slots := 0, locals := 0 } : Room) s m (([.ref (gad G 32), .int x, .int y, .int v] : List Value).toArray) below meth cd H locs 0 0 (MQ below (va_Qv (fun c9 : Nat → va_E => c9 = va_up c 33 (.inl (gI G, 132, .inl (upd f q v)))) (fun c9 t => Hw G c9 t t.heap) (gA G)) ([.ref (gad G 32), .int x, .int y, .int v] : List Value).toArray s 0 0 (gA G)) (F0 m 0 ls []) by rw [hH, hlocs] at hgo; exact hgo
  refine lv_aload_n hx hb dX11_sets_0 rfl (lv_at hl 0 rfl) ?_
  refine w_get (C := RX11) (T := TX11) (N := 27) 0 hx hb hts inX11 hown hw (by decide) o1 rfl (by decide) (hts _ tw_885) rfl dX11_sets_1 ?_
  refine lv_bipush (v := 11) hx hb dX11_sets_4 (by decide) ?_
  refine lv_iload_n hx hb dX11_sets_6 rfl (lv_at hl 1 rfl) ?_
  refine lv_imul hx hb dX11_sets_7 ?_
  refine lv_iload_n hx hb dX11_sets_8 rfl (lv_at hl 2 rfl) ?_
  refine lv_iadd hx hb dX11_sets_9 ?_
  refine lv_iload_n hx hb dX11_sets_10 rfl (lv_at hl 3 rfl) ?_
  refine w_iastN (j := q) (x := v) hx hb hw hX hS (by decide) a1 (hq) (hq2) (by decide) dX11_sets_11 (fun H locs hw hS => ?_)
  obtain ⟨w1, ew1⟩ : ∃ wz9 : Nat → va_E, wz9 = va_up c 33 (.inl (gI G, 132, .inl (upd f (q) (v)))) := ⟨_, rfl⟩
  have hw : Hw G w1 s H := by rw [ew1]; exact hw
  have o1_1 : w1 32 = .inr (9, [.ref (gad G 33), .ref (gad G 34), .ref (gad G 35), .int (nI n), .int (nI n1), .int z, .int hd, .int sd, .ref (gad G 36), .ref (gad G 37), .int (nI rn), .ref (gad G 38), .int (nI tn), .int fr, .int tto, .int tk, .int wo, .ref (gad G 39), .ref (gad G 40), .ref (gad G 41), .ref (gad G 42), .ref (gad G 43), .ref (gad G 44), .int (nI n2), .int (nI qn), .int iz, .int (bi im)]) := by rw [ew1]; exact vu_e (by decide) o1
  have a1_1 : w1 33 = .inl (gI G, 132, .inl (upd f (q) (v))) := by rw [ew1]; exact vu_s
  exact re_V hx hb hr hlocks hw hS dX11_sets_12 (ew1)
set_option maxHeartbeats 4000000 in
set_option maxRecDepth 100000 in
theorem k_X11_comes (l : Launch) {G : GT} {c : Nat → va_E} {n n1 rn tn n2 qn : Nat} {z hd sd fr tto tk wo iz : Int32} {im : Bool} (o1 : c 32 = .inr (9, [.ref (gad G 33), .ref (gad G 34), .ref (gad G 35), .int (nI n), .int (nI n1), .int z, .int hd, .int sd, .ref (gad G 36), .ref (gad G 37), .int (nI rn), .ref (gad G 38), .int (nI tn), .int fr, .int tto, .int tk, .int wo, .ref (gad G 39), .ref (gad G 40), .ref (gad G 41), .ref (gad G 42), .ref (gad G 43), .ref (gad G 44), .int (nI n2), .int (nI qn), .int iz, .int (bi im)])) {f : Nat → Int32} (a1 : c 33 = .inl (gI G, 132, .inl f)) (hn : n ≤ 12) (hlt : n < 12) : Met l yX11_comes (wv yX11_comes cX11_comes 2 none) ({ frames := 1, cells := 0, slots := 0, locals := 23 } : Room) (va_Pc [.ref (gad G 32)] (fun U => Hw G c U U.heap)) (va_Qv (fun c9 : Nat → va_E => c9 = va_up (va_up c 33 (.inl (gI G, 132, .inl (apF f n)))) 32 (.inr (9, [.ref (gad G 33), .ref (gad G 34), .ref (gad G 35), .int (nI (n + 1)), .int (nI n1), .int z, .int hd, .int sd, .ref (gad G 36), .ref (gad G 37), .int (nI rn), .ref (gad G 38), .int (nI tn), .int fr, .int tto, .int tk, .int wo, .ref (gad G 39), .ref (gad G 40), .ref (gad G 41), .ref (gad G 42), .ref (gad G 43), .ref (gad G 44), .int (nI n2), .int (nI qn), .int iz, .int (bi im)]))) (fun c9 t => Hw G c9 t t.heap) (gA G)) 0 0 (gA G) := by
  refine en (by decide +kernel) (by first | exact Nat.le_of_ble_eq_true rfl | decide) ?_
  intro p e s m below meth cd ls hx hb hr hml hown hts hlocks hnm hw hl
  have hl : lv_has ls 2 [(0, .ref (gad G 32))] := hl
  have hX : Sw G s s.heap := hw.2.2.2.2.2
  have hS : va_S (gA G) s.heap s.heap [] := va_S.rf
  obtain ⟨H, hH⟩ : ∃ wz9, wz9 = s.heap := ⟨_, rfl⟩
  obtain ⟨locs, hlocs⟩ : ∃ wz9 : List Loc, wz9 = [] := ⟨_, rfl⟩
  have hw : Hw G c s H := by rw [hH]; exact hw
  have hS : va_S (gA G) s.heap H locs := by rw [hH, hlocs]; exact hS
  suffices hgo : W p l e ({ frames := 1, cells := 0, slots := 0, locals := 23 } : Room) s m (([.ref (gad G 32)] : List Value).toArray) below meth cd H locs 0 0 (MQ below (va_Qv (fun c9 : Nat → va_E => c9 = va_up (va_up c 33 (.inl (gI G, 132, .inl (apF f n)))) 32 (.inr (9, [.ref (gad G 33), .ref (gad G 34), .ref (gad G 35), .int (nI (n + 1)), .int (nI n1), .int z, .int hd, .int sd, .ref (gad G 36), .ref (gad G 37), .int (nI rn), .ref (gad G 38), .int (nI tn), .int fr, .int tto, .int tk, .int wo, .ref (gad G 39), .ref (gad G 40), .ref (gad G 41), .ref (gad G 42), .ref (gad G 43), .ref (gad G 44), .int (nI n2), .int (nI qn), .int iz, .int (bi im)]))) (fun c9 t => Hw G c9 t t.heap) (gA G)) ([.ref (gad G 32)] : List Value).toArray s 0 0 (gA G)) (F0 m 0 ls []) by rw [hH, hlocs] at hgo; exact hgo
  refine lv_iconst (v := 0) hx hb dX11_comes_0 (by decide) ?_
  refine lv_istore_n (lv' := [(1, _), (0, _)]) hx hb dX11_comes_1 rfl hl (by decide) rfl (fun ls hl => ?_)
  have L2 : ∀ (N : Nat) (i : Nat) (fz : Nat → Int32), (i + N = 11) → (fz = zrF f n i) → ∀ (c0 : Nat → va_E) (H : Heap) (locs : List Loc), (c0 = va_up c 33 (.inl (gI G, 132, .inl fz))) → Hw G c0 s H → va_S (gA G) s.heap H locs → ∀ ls : Array Slot, lv_has ls 2 [(1, .int (nI i)), (0, .ref (gad G 32))] → W p l e ({ frames := 1, cells := 0, slots := 0, locals := 23 } : Room) s m (([.ref (gad G 32)] : List Value).toArray) below meth cd H locs 0 0 (MQ below (va_Qv (fun c9 : Nat → va_E => c9 = va_up (va_up c 33 (.inl (gI G, 132, .inl (apF f n)))) 32 (.inr (9, [.ref (gad G 33), .ref (gad G 34), .ref (gad G 35), .int (nI (n + 1)), .int (nI n1), .int z, .int hd, .int sd, .ref (gad G 36), .ref (gad G 37), .int (nI rn), .ref (gad G 38), .int (nI tn), .int fr, .int tto, .int tk, .int wo, .ref (gad G 39), .ref (gad G 40), .ref (gad G 41), .ref (gad G 42), .ref (gad G 43), .ref (gad G 44), .int (nI n2), .int (nI qn), .int iz, .int (bi im)]))) (fun c9 t => Hw G c9 t t.heap) (gA G)) ([.ref (gad G 32)] : List Value).toArray s 0 0 (gA G)) (F0 m 2 ls []) := by
    intro N
    induction N with
    | zero =>
      intro i  fz  hN hz c0 H locs e0 hw hS ls hl
      obtain rfl : i = 11 := by omega
      have o1 : c0 32 = .inr (9, [.ref (gad G 33), .ref (gad G 34), .ref (gad G 35), .int (nI n), .int (nI n1), .int z, .int hd, .int sd, .ref (gad G 36), .ref (gad G 37), .int (nI rn), .ref (gad G 38), .int (nI tn), .int fr, .int tto, .int tk, .int wo, .ref (gad G 39), .ref (gad G 40), .ref (gad G 41), .ref (gad G 42), .ref (gad G 43), .ref (gad G 44), .int (nI n2), .int (nI qn), .int iz, .int (bi im)]) := by rw [e0]; exact vu_e (by decide) o1
      have a1 : c0 33 = .inl (gI G, 132, .inl fz) := by rw [e0]; exact vu_s
      refine lv_iload_n hx hb dX11_comes_2 rfl (lv_at hl 0 rfl) ?_
      refine lv_bipush (v := 11) hx hb dX11_comes_3 (by decide) ?_
      refine lv_icmp_ge (tgt := 24) hx hb dX11_comes_5 (by decide) (fun c5 => ?_) (fun q => absurd (by decide) q)
      refine lv_aload_n hx hb dX11_comes_24 rfl (lv_at hl 1 rfl) ?_
      refine lv_aload_n hx hb dX11_comes_25 rfl (lv_at hl 1 rfl) ?_
      refine w_get (C := RX11) (T := TX11) (N := 27) 3 hx hb hts inX11 hown hw (by decide) o1 rfl (by decide) (hts _ tw_888) rfl dX11_comes_26 ?_
      refine lv_bipush (v := 9) hx hb dX11_comes_29 (by decide) ?_
      refine lv_sipush (v := 999) hx hb dX11_comes_31 (by decide) ?_
      refine cQv (rV (As := [_, _, _]) ⟨hx, hb, hml, hown, hts⟩ hw (k_X11_sets l o1 a1 hn (ixm n 9) (by omega)) (cv_X11_sets hts tw_975 rfl rfl ⟨Nat.le_of_ble_eq_true rfl, Nat.le_of_ble_eq_true rfl⟩) (by decide) o1 rfl rfl hl.1 rfl (by first | exact Nat.le_of_ble_eq_true rfl | decide) dX11_comes_34 ⟨Nat.zero_le _, Nat.zero_le _⟩) hw hS (fun w1 H locs hp34 hw hS => ?_)
      have o1_1 : w1 32 = .inr (9, [.ref (gad G 33), .ref (gad G 34), .ref (gad G 35), .int (nI n), .int (nI n1), .int z, .int hd, .int sd, .ref (gad G 36), .ref (gad G 37), .int (nI rn), .ref (gad G 38), .int (nI tn), .int fr, .int tto, .int tk, .int wo, .ref (gad G 39), .ref (gad G 40), .ref (gad G 41), .ref (gad G 42), .ref (gad G 43), .ref (gad G 44), .int (nI n2), .int (nI qn), .int iz, .int (bi im)]) := by rw [hp34]; exact (vu_e (by decide) o1)
      have a1_1 : w1 33 = .inl (gI G, 132, .inl (upd fz (n * 11 + 9) (999))) := by rw [hp34]; exact vu_s
      refine lv_aload_n hx hb dX11_comes_37 rfl (lv_at hl 1 rfl) ?_
      refine lv_aload_n hx hb dX11_comes_38 rfl (lv_at hl 1 rfl) ?_
      refine w_get (C := RX11) (T := TX11) (N := 27) 3 hx hb hts inX11 hown hw (by decide) o1_1 rfl (by decide) (hts _ tw_888) rfl dX11_comes_39 ?_
      refine lv_bipush (v := 10) hx hb dX11_comes_42 (by decide) ?_
      refine lv_iconst (v := (-1)) hx hb dX11_comes_44 (by decide) ?_
      refine cQv (rV (As := [_, _, _]) ⟨hx, hb, hml, hown, hts⟩ hw (k_X11_sets l o1_1 a1_1 hn (ixm n 10) (by omega)) (cv_X11_sets hts tw_975 rfl rfl ⟨Nat.le_of_ble_eq_true rfl, Nat.le_of_ble_eq_true rfl⟩) (by decide) o1_1 rfl rfl hl.1 rfl (by first | exact Nat.le_of_ble_eq_true rfl | decide) dX11_comes_45 ⟨Nat.zero_le _, Nat.zero_le _⟩) hw hS (fun w2 H locs hp45 hw hS => ?_)
      have o1_2 : w2 32 = .inr (9, [.ref (gad G 33), .ref (gad G 34), .ref (gad G 35), .int (nI n), .int (nI n1), .int z, .int hd, .int sd, .ref (gad G 36), .ref (gad G 37), .int (nI rn), .ref (gad G 38), .int (nI tn), .int fr, .int tto, .int tk, .int wo, .ref (gad G 39), .ref (gad G 40), .ref (gad G 41), .ref (gad G 42), .ref (gad G 43), .ref (gad G 44), .int (nI n2), .int (nI qn), .int iz, .int (bi im)]) := by rw [hp45]; exact (vu_e (by decide) o1_1)
      have a1_2 : w2 33 = .inl (gI G, 132, .inl (upd (upd fz (n * 11 + 9) (999)) (n * 11 + 10) (-1))) := by rw [hp45]; exact vu_s
      refine lv_aload_n hx hb dX11_comes_48 rfl (lv_at hl 1 rfl) ?_
      refine lv_dup hx hb dX11_comes_49 rfl ?_
      refine w_get (C := RX11) (T := TX11) (N := 27) 3 hx hb hts inX11 hown hw (by decide) o1_2 rfl (by decide) (hts _ tw_888) rfl dX11_comes_50 ?_
      refine lv_iconst (v := 1) hx hb dX11_comes_53 (by decide) ?_
      refine lv_iadd hx hb dX11_comes_54 ?_
      refine tp (y := nI (n + 1)) (nI_1 n) ?_
      refine w_put (C := RX11) (T := TX11) (N := 27) (v := .int (nI (n + 1))) 3 tyX11 hx hb hts inX11 tyX11_ok nmX11 hown hw hX hS (by decide) o1_2 rfl (by decide) (hts _ tw_888) rfl rfl (rfl) (rfl) (Nat.le_of_ble_eq_true rfl) dX11_comes_55 (fun H locs hw hS => ?_)
      obtain ⟨w4, ew4⟩ : ∃ wz9 : Nat → va_E, wz9 = va_up w2 32 (.inr (9, [.ref (gad G 33), .ref (gad G 34), .ref (gad G 35), .int (nI (n + 1)), .int (nI n1), .int z, .int hd, .int sd, .ref (gad G 36), .ref (gad G 37), .int (nI rn), .ref (gad G 38), .int (nI tn), .int fr, .int tto, .int tk, .int wo, .ref (gad G 39), .ref (gad G 40), .ref (gad G 41), .ref (gad G 42), .ref (gad G 43), .ref (gad G 44), .int (nI n2), .int (nI qn), .int iz, .int (bi im)])) := ⟨_, rfl⟩
      have hw : Hw G w4 s H := by rw [ew4]; exact hw
      have o1_4 : w4 32 = .inr (9, [.ref (gad G 33), .ref (gad G 34), .ref (gad G 35), .int (nI (n + 1)), .int (nI n1), .int z, .int hd, .int sd, .ref (gad G 36), .ref (gad G 37), .int (nI rn), .ref (gad G 38), .int (nI tn), .int fr, .int tto, .int tk, .int wo, .ref (gad G 39), .ref (gad G 40), .ref (gad G 41), .ref (gad G 42), .ref (gad G 43), .ref (gad G 44), .int (nI n2), .int (nI qn), .int iz, .int (bi im)]) := by rw [ew4]; exact vu_s
      have a1_4 : w4 33 = .inl (gI G, 132, .inl (upd (upd fz (n * 11 + 9) (999)) (n * 11 + 10) (-1))) := by rw [ew4]; exact vu_e (by decide) a1_2
      exact re_V hx hb hr hlocks hw hS dX11_comes_58 (by rw [ew4, hp45, hp34, e0, hz, up_up, up_up]; rfl)
    | succ N ih =>
      intro i  fz  hN hz c0 H locs e0 hw hS ls hl
      have o1 : c0 32 = .inr (9, [.ref (gad G 33), .ref (gad G 34), .ref (gad G 35), .int (nI n), .int (nI n1), .int z, .int hd, .int sd, .ref (gad G 36), .ref (gad G 37), .int (nI rn), .ref (gad G 38), .int (nI tn), .int fr, .int tto, .int tk, .int wo, .ref (gad G 39), .ref (gad G 40), .ref (gad G 41), .ref (gad G 42), .ref (gad G 43), .ref (gad G 44), .int (nI n2), .int (nI qn), .int iz, .int (bi im)]) := by rw [e0]; exact vu_e (by decide) o1
      have a1 : c0 33 = .inl (gI G, 132, .inl fz) := by rw [e0]; exact vu_s
      refine lv_iload_n hx hb dX11_comes_2 rfl (lv_at hl 0 rfl) ?_
      refine lv_bipush (v := 11) hx hb dX11_comes_3 (by decide) ?_
      refine lv_icmp_ge (tgt := 24) hx hb dX11_comes_5 (by decide) (fun q => absurd q (nI_ge (b := 11) (by omega) (by omega))) (fun c5 => ?_)
      refine lv_aload_n hx hb dX11_comes_8 rfl (lv_at hl 1 rfl) ?_
      refine lv_aload_n hx hb dX11_comes_9 rfl (lv_at hl 1 rfl) ?_
      refine w_get (C := RX11) (T := TX11) (N := 27) 3 hx hb hts inX11 hown hw (by decide) o1 rfl (by decide) (hts _ tw_888) rfl dX11_comes_10 ?_
      refine lv_iload_n hx hb dX11_comes_13 rfl (lv_at hl 0 rfl) ?_
      refine lv_iconst (v := 0) hx hb dX11_comes_14 (by decide) ?_
      refine cQv (rV (As := [_, _, _]) ⟨hx, hb, hml, hown, hts⟩ hw (k_X11_sets l o1 a1 hn (ixm n i) (by omega)) (cv_X11_sets hts tw_975 rfl rfl ⟨Nat.le_of_ble_eq_true rfl, Nat.le_of_ble_eq_true rfl⟩) (by decide) o1 rfl rfl hl.1 rfl (by first | exact Nat.le_of_ble_eq_true rfl | decide) dX11_comes_15 ⟨Nat.zero_le _, Nat.zero_le _⟩) hw hS (fun w5 H locs hp15 hw hS => ?_)
      have o1_5 : w5 32 = .inr (9, [.ref (gad G 33), .ref (gad G 34), .ref (gad G 35), .int (nI n), .int (nI n1), .int z, .int hd, .int sd, .ref (gad G 36), .ref (gad G 37), .int (nI rn), .ref (gad G 38), .int (nI tn), .int fr, .int tto, .int tk, .int wo, .ref (gad G 39), .ref (gad G 40), .ref (gad G 41), .ref (gad G 42), .ref (gad G 43), .ref (gad G 44), .int (nI n2), .int (nI qn), .int iz, .int (bi im)]) := by rw [hp15]; exact (vu_e (by decide) o1)
      have a1_5 : w5 33 = .inl (gI G, 132, .inl (upd fz (n * 11 + i) (0))) := by rw [hp15]; exact vu_s
      refine lv_iinc (v := nI (i + 1)) (lv' := [(1, _), (0, _)]) hx hb dX11_comes_18 hl (k := 0) rfl (inc1 i) (by decide) rfl (fun ls hl => ?_)
      refine lv_goto (tgt := 2) hx hb dX11_comes_21 (by decide) ?_
      exact ih (i + 1) (zrF f n (i + 1)) (by omega) rfl _ H locs (by rw [hp15, e0, up_up, hz, zrF_s]) hw hS ls (lv_sub hl [0, 1] rfl)
  exact L2 11 0 f (by omega) (zrF_0 f n).symm _ H locs (up_id a1).symm hw hS ls (lv_sub hl [0, 1] rfl)
set_option maxHeartbeats 4000000 in
set_option maxRecDepth 100000 in
theorem k_X11_clause (l : Launch) {G : GT} {c : Nat → va_E} {n n1 rn tn n2 qn : Nat} {z hd sd fr tto tk wo iz : Int32} {im : Bool} (o1 : c 32 = .inr (9, [.ref (gad G 33), .ref (gad G 34), .ref (gad G 35), .int (nI n), .int (nI n1), .int z, .int hd, .int sd, .ref (gad G 36), .ref (gad G 37), .int (nI rn), .ref (gad G 38), .int (nI tn), .int fr, .int tto, .int tk, .int wo, .ref (gad G 39), .ref (gad G 40), .ref (gad G 41), .ref (gad G 42), .ref (gad G 43), .ref (gad G 44), .int (nI n2), .int (nI qn), .int iz, .int (bi im)])) {f : Nat → Int32} (a1 : c 33 = .inl (gI G, 132, .inl f)) (hn : n ≤ 12)  : Met l yX11_clause (wv yX11_clause cX11_clause 1 (some .int)) ({ frames := 2, cells := 0, slots := 0, locals := 44 } : Room) (va_Pc [.ref (gad G 32)] (fun U => Hw G c U U.heap)) (va_Qi (fun r (c9 : Nat → va_E) => (n = 12 ∧ r = -4 ∧ c9 = c) ∨ (n < 12 ∧ r = nI n ∧ c9 = va_up (va_up c 33 (.inl (gI G, 132, .inl (apF f n)))) 32 (.inr (9, [.ref (gad G 33), .ref (gad G 34), .ref (gad G 35), .int (nI (n + 1)), .int (nI n1), .int z, .int hd, .int sd, .ref (gad G 36), .ref (gad G 37), .int (nI rn), .ref (gad G 38), .int (nI tn), .int fr, .int tto, .int tk, .int wo, .ref (gad G 39), .ref (gad G 40), .ref (gad G 41), .ref (gad G 42), .ref (gad G 43), .ref (gad G 44), .int (nI n2), .int (nI qn), .int iz, .int (bi im)])))) (fun c9 t => Hw G c9 t t.heap) (gA G)) 0 0 (gA G) := by
  refine en (by decide +kernel) (by first | exact Nat.le_of_ble_eq_true rfl | decide) ?_
  intro p e s m below meth cd ls hx hb hr hml hown hts hlocks hnm hw hl
  have hl : lv_has ls 1 [(0, .ref (gad G 32))] := hl
  have hX : Sw G s s.heap := hw.2.2.2.2.2
  have hS : va_S (gA G) s.heap s.heap [] := va_S.rf
  obtain ⟨H, hH⟩ : ∃ wz9, wz9 = s.heap := ⟨_, rfl⟩
  obtain ⟨locs, hlocs⟩ : ∃ wz9 : List Loc, wz9 = [] := ⟨_, rfl⟩
  have hw : Hw G c s H := by rw [hH]; exact hw
  have hS : va_S (gA G) s.heap H locs := by rw [hH, hlocs]; exact hS
  suffices hgo : W p l e ({ frames := 2, cells := 0, slots := 0, locals := 44 } : Room) s m (([.ref (gad G 32)] : List Value).toArray) below meth cd H locs 0 0 (MQ below (va_Qi (fun r (c9 : Nat → va_E) => (n = 12 ∧ r = -4 ∧ c9 = c) ∨ (n < 12 ∧ r = nI n ∧ c9 = va_up (va_up c 33 (.inl (gI G, 132, .inl (apF f n)))) 32 (.inr (9, [.ref (gad G 33), .ref (gad G 34), .ref (gad G 35), .int (nI (n + 1)), .int (nI n1), .int z, .int hd, .int sd, .ref (gad G 36), .ref (gad G 37), .int (nI rn), .ref (gad G 38), .int (nI tn), .int fr, .int tto, .int tk, .int wo, .ref (gad G 39), .ref (gad G 40), .ref (gad G 41), .ref (gad G 42), .ref (gad G 43), .ref (gad G 44), .int (nI n2), .int (nI qn), .int iz, .int (bi im)])))) (fun c9 t => Hw G c9 t t.heap) (gA G)) ([.ref (gad G 32)] : List Value).toArray s 0 0 (gA G)) (F0 m 0 ls []) by rw [hH, hlocs] at hgo; exact hgo
  refine lv_aload_n hx hb dX11_clause_0 rfl (lv_at hl 0 rfl) ?_
  refine w_get (C := RX11) (T := TX11) (N := 27) 3 hx hb hts inX11 hown hw (by decide) o1 rfl (by decide) (hts _ tw_888) rfl dX11_clause_1 ?_
  refine lv_bipush (v := 12) hx hb dX11_clause_4 (by decide) ?_
  refine lv_icmp_ne (tgt := 12) hx hb dX11_clause_6 (by decide) (fun c6 => ?_) (fun c6 => ?_)
  · have hlt : n < 12 := by rcases Nat.lt_or_ge n 12 with q | q; exact q; exact absurd (by rw [show n = 12 by omega]; rfl) c6
    refine lv_aload_n hx hb dX11_clause_12 rfl (lv_at hl 0 rfl) ?_
    refine cQv (rV (As := []) ⟨hx, hb, hml, hown, hts⟩ hw (k_X11_comes l o1 a1 hn hlt) (cv_X11_comes hts tw_971 rfl rfl ⟨Nat.le_of_ble_eq_true rfl, Nat.le_of_ble_eq_true rfl⟩) (by decide) o1 rfl rfl hl.1 rfl (by first | exact Nat.le_of_ble_eq_true rfl | decide) dX11_clause_13 ⟨Nat.zero_le _, Nat.zero_le _⟩) hw hS (fun w1 H locs hp13 hw hS => ?_)
    have o1_1 : w1 32 = .inr (9, [.ref (gad G 33), .ref (gad G 34), .ref (gad G 35), .int (nI (n + 1)), .int (nI n1), .int z, .int hd, .int sd, .ref (gad G 36), .ref (gad G 37), .int (nI rn), .ref (gad G 38), .int (nI tn), .int fr, .int tto, .int tk, .int wo, .ref (gad G 39), .ref (gad G 40), .ref (gad G 41), .ref (gad G 42), .ref (gad G 43), .ref (gad G 44), .int (nI n2), .int (nI qn), .int iz, .int (bi im)]) := by rw [hp13]; exact vu_s
    have a1_1 : w1 33 = .inl (gI G, 132, .inl (apF f n)) := by rw [hp13]; exact (vu_e (by decide) vu_s)
    refine lv_aload_n hx hb dX11_clause_16 rfl (lv_at hl 0 rfl) ?_
    refine w_get (C := RX11) (T := TX11) (N := 27) 3 hx hb hts inX11 hown hw (by decide) o1_1 rfl (by decide) (hts _ tw_888) rfl dX11_clause_17 ?_
    refine lv_iconst (v := 1) hx hb dX11_clause_20 (by decide) ?_
    refine lv_isub hx hb dX11_clause_21 ?_
    refine tp (y := nI n) (nI_pred n) ?_
    exact re_Q hx hb hr hlocks (rfl) hw hS dX11_clause_22 (Or.inr ⟨hlt, rfl, hp13⟩)
  · have h12 : n = 12 := (nI_eq (b := 12) (by omega) (by omega)).mp c6
    refine lv_bipush (v := (-4)) hx hb dX11_clause_9 (by decide) ?_
    exact re_Q hx hb hr hlocks (rfl) hw hS dX11_clause_11 (Or.inl ⟨h12, rfl, rfl⟩)
set_option maxHeartbeats 4000000 in
set_option maxRecDepth 100000 in
theorem k_X11_test (l : Launch) {G : GT} {c : Nat → va_E} {n n1 rn tn n2 qn : Nat} {z hd sd fr tto tk wo iz : Int32} {im : Bool} (o1 : c 32 = .inr (9, [.ref (gad G 33), .ref (gad G 34), .ref (gad G 35), .int (nI n), .int (nI n1), .int z, .int hd, .int sd, .ref (gad G 36), .ref (gad G 37), .int (nI rn), .ref (gad G 38), .int (nI tn), .int fr, .int tto, .int tk, .int wo, .ref (gad G 39), .ref (gad G 40), .ref (gad G 41), .ref (gad G 42), .ref (gad G 43), .ref (gad G 44), .int (nI n2), .int (nI qn), .int iz, .int (bi im)])) {f : Nat → Int32} (a1 : c 33 = .inl (gI G, 132, .inl f)) (hn : n ≤ 12) {x h t lo hi : Int32} : Met l yX11_test (wv yX11_test cX11_test 8 (some .int)) ({ frames := 2, cells := 0, slots := 0, locals := 43 } : Room) (va_Pc [.ref (gad G 32), .int x, .int h, .int t, .int lo, .int hi] (fun U => Hw G c U U.heap)) (va_Qi (fun r (c9 : Nat → va_E) => (tOK n x h t lo hi = false ∧ r = -2 ∧ c9 = c) ∨ (∃ a, a < n ∧ x = nI a ∧ tOK n x h t lo hi = true ∧ r = f (a * 11) ∧ c9 = va_up c 33 (.inl (gI G, 132, .inl (u4 f (a * 11) h t lo hi))))) (fun c9 t => Hw G c9 t t.heap) (gA G)) 0 0 (gA G) := by
  refine en (by decide +kernel) (by first | exact Nat.le_of_ble_eq_true rfl | decide) ?_
  intro p e s m below meth cd ls hx hb hr hml hown hts hlocks hnm hw hl
  have hl : lv_has ls 8 [(0, .ref (gad G 32)), (1, .int x), (2, .int h), (3, .int t), (4, .int lo), (5, .int hi)] := hl
  have hX : Sw G s s.heap := hw.2.2.2.2.2
  have hS : va_S (gA G) s.heap s.heap [] := va_S.rf
  obtain ⟨H, hH⟩ : ∃ wz9, wz9 = s.heap := ⟨_, rfl⟩
  obtain ⟨locs, hlocs⟩ : ∃ wz9 : List Loc, wz9 = [] := ⟨_, rfl⟩
  have hw : Hw G c s H := by rw [hH]; exact hw
  have hS : va_S (gA G) s.heap H locs := by rw [hH, hlocs]; exact hS
  suffices hgo : W p l e ({ frames := 2, cells := 0, slots := 0, locals := 43 } : Room) s m (([.ref (gad G 32), .int x, .int h, .int t, .int lo, .int hi] : List Value).toArray) below meth cd H locs 0 0 (MQ below (va_Qi (fun r (c9 : Nat → va_E) => (tOK n x h t lo hi = false ∧ r = -2 ∧ c9 = c) ∨ (∃ a, a < n ∧ x = nI a ∧ tOK n x h t lo hi = true ∧ r = f (a * 11) ∧ c9 = va_up c 33 (.inl (gI G, 132, .inl (u4 f (a * 11) h t lo hi))))) (fun c9 t => Hw G c9 t t.heap) (gA G)) ([.ref (gad G 32), .int x, .int h, .int t, .int lo, .int hi] : List Value).toArray s 0 0 (gA G)) (F0 m 0 ls []) by rw [hH, hlocs] at hgo; exact hgo
  refine lv_iload_n hx hb dX11_test_0 rfl (lv_at hl 2 rfl) ?_
  refine lv_iconst (v := 3) hx hb dX11_test_1 (by decide) ?_
  refine lv_icmp_ne (tgt := 10) hx hb dX11_test_2 (by decide) (fun c2 => ?_) (fun c2 => ?_)
  · refine lv_bipush (v := 99) hx hb dX11_test_10 (by decide) ?_
    refine lv_istore (lv' := [(6, _), (0, _), (1, _), (2, _), (3, _), (4, _), (5, _)]) hx hb dX11_test_12 hl (by decide) rfl (fun ls hl => ?_)
    refine lv_aload_n hx hb dX11_test_14 rfl (lv_at hl 1 rfl) ?_
    refine lv_iload_n hx hb dX11_test_15 rfl (lv_at hl 2 rfl) ?_
    refine cSe (rV (As := [_]) ⟨hx, hb, hml, hown, hts⟩ hw (k_X11_isClause l o1 a1 hn) (cv_X11_isClause hts tw_983 rfl rfl ⟨Nat.le_of_ble_eq_true rfl, Nat.le_of_ble_eq_true rfl⟩) (by decide) o1 rfl rfl hl.1 rfl (by first | exact Nat.le_of_ble_eq_true rfl | decide) dX11_test_16 ⟨Nat.zero_le _, Nat.zero_le _⟩) ?_
    refine zb_eq (tgt := 80) hx hb dX11_test_19 (by decide) (fun c19 => ?_) (fun c19 => ?_)
    · refine lv_bipush (v := (-2)) hx hb dX11_test_80 (by decide) ?_
      exact re_Q hx hb hr hlocks (rfl) hw hS dX11_test_82 (Or.inl ⟨by simp [tOK, c2, c19], rfl, rfl⟩)
    · refine lv_iload_n hx hb dX11_test_22 rfl (lv_at hl 3 rfl) ?_
      refine lv_iconst (v := 0) hx hb dX11_test_23 (by decide) ?_
      refine lv_iconst (v := 5) hx hb dX11_test_24 (by decide) ?_
      refine cSe (rST (As := [_, _, _]) ⟨hx, hb, hml, hown, hts⟩ (k_X11_in l ) (cv_X11_in hts tw_987 rfl rfl ⟨Nat.le_of_ble_eq_true rfl, Nat.le_of_ble_eq_true rfl⟩) rfl hl.1 rfl (by first | exact Nat.le_of_ble_eq_true rfl | decide) dX11_test_25 ⟨Nat.zero_le _, Nat.zero_le _⟩) ?_
      refine zb_eq (tgt := 80) hx hb dX11_test_28 (by decide) (fun c28 => ?_) (fun c28 => ?_)
      · refine lv_bipush (v := (-2)) hx hb dX11_test_80 (by decide) ?_
        exact re_Q hx hb hr hlocks (rfl) hw hS dX11_test_82 (Or.inl ⟨by simp [tOK, c2, c19, c28], rfl, rfl⟩)
      · refine lv_iload_n hx hb dX11_test_31 rfl (lv_at hl 3 rfl) ?_
        refine lv_iconst (v := 1) hx hb dX11_test_32 (by decide) ?_
        refine lv_icmp_eq (tgt := 46) hx hb dX11_test_33 (by decide) (fun c33 => ?_) (fun c33 => ?_)
        · skip
          refine lv_iconst (v := 1) hx hb dX11_test_46 (by decide) ?_
          refine lv_goto (tgt := 51) hx hb dX11_test_47 (by decide) ?_
          have hnd : ndT h = true := by simp [ndT, c33]
          refine lv_iload_n hx hb dX11_test_51 rfl (lv_at hl 4 rfl) ?_
          refine cSe (rST (As := [_, _]) ⟨hx, hb, hml, hown, hts⟩ (k_X11_isTrait_t l ) (cv_X11_isTrait hts tw_990 rfl rfl ⟨Nat.le_of_ble_eq_true rfl, Nat.le_of_ble_eq_true rfl⟩) rfl hl.1 rfl (by first | exact Nat.le_of_ble_eq_true rfl | decide) dX11_test_52 ⟨Nat.zero_le _, Nat.zero_le _⟩) ?_
          refine zb_eq (tgt := 80) hx hb dX11_test_55 (by decide) (fun c55 => ?_) (fun c55 => ?_)
          · refine lv_bipush (v := (-2)) hx hb dX11_test_80 (by decide) ?_
            exact re_Q hx hb hr hlocks (rfl) hw hS dX11_test_82 (Or.inl ⟨by simp [tOK, c2, c19, c28, c55, hnd], rfl, rfl⟩)
          · refine lv_iload hx hb dX11_test_58 (lv_at hl 5 rfl) ?_
            refine lv_iconst (v := 0) hx hb dX11_test_60 (by decide) ?_
            refine lv_iload hx hb dX11_test_61 (lv_at hl 0 rfl) ?_
            refine cSe (rST (As := [_, _, _]) ⟨hx, hb, hml, hown, hts⟩ (k_X11_in l ) (cv_X11_in hts tw_987 rfl rfl ⟨Nat.le_of_ble_eq_true rfl, Nat.le_of_ble_eq_true rfl⟩) rfl hl.1 rfl (by first | exact Nat.le_of_ble_eq_true rfl | decide) dX11_test_63 ⟨Nat.zero_le _, Nat.zero_le _⟩) ?_
            refine zb_eq (tgt := 80) hx hb dX11_test_66 (by decide) (fun c66 => ?_) (fun c66 => ?_)
            · refine lv_bipush (v := (-2)) hx hb dX11_test_80 (by decide) ?_
              exact re_Q hx hb hr hlocks (rfl) hw hS dX11_test_82 (Or.inl ⟨by simp [tOK, c2, c19, c28, c55, c66, hnd], rfl, rfl⟩)
            · refine lv_iload hx hb dX11_test_69 (lv_at hl 6 rfl) ?_
              refine lv_iconst (v := 0) hx hb dX11_test_71 (by decide) ?_
              refine lv_iload hx hb dX11_test_72 (lv_at hl 0 rfl) ?_
              refine cSe (rST (As := [_, _, _]) ⟨hx, hb, hml, hown, hts⟩ (k_X11_in l ) (cv_X11_in hts tw_987 rfl rfl ⟨Nat.le_of_ble_eq_true rfl, Nat.le_of_ble_eq_true rfl⟩) rfl hl.1 rfl (by first | exact Nat.le_of_ble_eq_true rfl | decide) dX11_test_74 ⟨Nat.zero_le _, Nat.zero_le _⟩) ?_
              refine zb_ne (tgt := 83) hx hb dX11_test_77 (by decide) (fun c77 => ?_) (fun c77 => ?_)
              · obtain ⟨a, ha, rfl⟩ := hasN_t hn c19
                refine lv_aload_n hx hb dX11_test_83 rfl (lv_at hl 1 rfl) ?_
                refine lv_iload_n hx hb dX11_test_84 rfl (lv_at hl 2 rfl) ?_
                refine lv_iconst (v := 0) hx hb dX11_test_85 (by decide) ?_
                refine cSe (rV (As := [_, _]) ⟨hx, hb, hml, hown, hts⟩ hw (k_X11_is l o1 a1 hn (ixm a 0) (by omega)) (cv_X11_is hts tw_993 rfl rfl ⟨Nat.le_of_ble_eq_true rfl, Nat.le_of_ble_eq_true rfl⟩) (by decide) o1 rfl rfl hl.1 rfl (by first | exact Nat.le_of_ble_eq_true rfl | decide) dX11_test_86 ⟨Nat.zero_le _, Nat.zero_le _⟩) ?_
                refine lv_istore (lv' := [(7, _), (6, _), (0, _), (1, _), (2, _), (3, _), (4, _), (5, _)]) hx hb dX11_test_89 hl (by decide) rfl (fun ls hl => ?_)
                refine lv_aload_n hx hb dX11_test_91 rfl (lv_at hl 2 rfl) ?_
                refine lv_iload_n hx hb dX11_test_92 rfl (lv_at hl 3 rfl) ?_
                refine lv_iconst (v := 0) hx hb dX11_test_93 (by decide) ?_
                refine lv_iload_n hx hb dX11_test_94 rfl (lv_at hl 4 rfl) ?_
                refine cQv (rV (As := [_, _, _]) ⟨hx, hb, hml, hown, hts⟩ hw (k_X11_sets l o1 a1 hn (ixm a 0) (by omega)) (cv_X11_sets hts tw_975 rfl rfl ⟨Nat.le_of_ble_eq_true rfl, Nat.le_of_ble_eq_true rfl⟩) (by decide) o1 rfl rfl hl.1 rfl (by first | exact Nat.le_of_ble_eq_true rfl | decide) dX11_test_95 ⟨Nat.zero_le _, Nat.zero_le _⟩) hw hS (fun w1 H locs hp95 hw hS => ?_)
                have o1_1 : w1 32 = .inr (9, [.ref (gad G 33), .ref (gad G 34), .ref (gad G 35), .int (nI n), .int (nI n1), .int z, .int hd, .int sd, .ref (gad G 36), .ref (gad G 37), .int (nI rn), .ref (gad G 38), .int (nI tn), .int fr, .int tto, .int tk, .int wo, .ref (gad G 39), .ref (gad G 40), .ref (gad G 41), .ref (gad G 42), .ref (gad G 43), .ref (gad G 44), .int (nI n2), .int (nI qn), .int iz, .int (bi im)]) := by rw [hp95]; exact (vu_e (by decide) o1)
                have a1_1 : w1 33 = .inl (gI G, 132, .inl (upd f (a * 11 + 0) (h))) := by rw [hp95]; exact vu_s
                refine lv_aload_n hx hb dX11_test_98 rfl (lv_at hl 2 rfl) ?_
                refine lv_iload_n hx hb dX11_test_99 rfl (lv_at hl 3 rfl) ?_
                refine lv_iconst (v := 1) hx hb dX11_test_100 (by decide) ?_
                refine lv_iload_n hx hb dX11_test_101 rfl (lv_at hl 5 rfl) ?_
                refine cQv (rV (As := [_, _, _]) ⟨hx, hb, hml, hown, hts⟩ hw (k_X11_sets l o1_1 a1_1 hn (ixm a 1) (by omega)) (cv_X11_sets hts tw_975 rfl rfl ⟨Nat.le_of_ble_eq_true rfl, Nat.le_of_ble_eq_true rfl⟩) (by decide) o1_1 rfl rfl hl.1 rfl (by first | exact Nat.le_of_ble_eq_true rfl | decide) dX11_test_102 ⟨Nat.zero_le _, Nat.zero_le _⟩) hw hS (fun w2 H locs hp102 hw hS => ?_)
                have o1_2 : w2 32 = .inr (9, [.ref (gad G 33), .ref (gad G 34), .ref (gad G 35), .int (nI n), .int (nI n1), .int z, .int hd, .int sd, .ref (gad G 36), .ref (gad G 37), .int (nI rn), .ref (gad G 38), .int (nI tn), .int fr, .int tto, .int tk, .int wo, .ref (gad G 39), .ref (gad G 40), .ref (gad G 41), .ref (gad G 42), .ref (gad G 43), .ref (gad G 44), .int (nI n2), .int (nI qn), .int iz, .int (bi im)]) := by rw [hp102]; exact (vu_e (by decide) o1_1)
                have a1_2 : w2 33 = .inl (gI G, 132, .inl (upd (upd f (a * 11 + 0) (h)) (a * 11 + 1) (t))) := by rw [hp102]; exact vu_s
                refine lv_aload_n hx hb dX11_test_105 rfl (lv_at hl 2 rfl) ?_
                refine lv_iload_n hx hb dX11_test_106 rfl (lv_at hl 3 rfl) ?_
                refine lv_iconst (v := 2) hx hb dX11_test_107 (by decide) ?_
                refine lv_iload hx hb dX11_test_108 (lv_at hl 6 rfl) ?_
                refine cQv (rV (As := [_, _, _]) ⟨hx, hb, hml, hown, hts⟩ hw (k_X11_sets l o1_2 a1_2 hn (ixm a 2) (by omega)) (cv_X11_sets hts tw_975 rfl rfl ⟨Nat.le_of_ble_eq_true rfl, Nat.le_of_ble_eq_true rfl⟩) (by decide) o1_2 rfl rfl hl.1 rfl (by first | exact Nat.le_of_ble_eq_true rfl | decide) dX11_test_110 ⟨Nat.zero_le _, Nat.zero_le _⟩) hw hS (fun w3 H locs hp110 hw hS => ?_)
                have o1_3 : w3 32 = .inr (9, [.ref (gad G 33), .ref (gad G 34), .ref (gad G 35), .int (nI n), .int (nI n1), .int z, .int hd, .int sd, .ref (gad G 36), .ref (gad G 37), .int (nI rn), .ref (gad G 38), .int (nI tn), .int fr, .int tto, .int tk, .int wo, .ref (gad G 39), .ref (gad G 40), .ref (gad G 41), .ref (gad G 42), .ref (gad G 43), .ref (gad G 44), .int (nI n2), .int (nI qn), .int iz, .int (bi im)]) := by rw [hp110]; exact (vu_e (by decide) o1_2)
                have a1_3 : w3 33 = .inl (gI G, 132, .inl (upd (upd (upd f (a * 11 + 0) (h)) (a * 11 + 1) (t)) (a * 11 + 2) (lo))) := by rw [hp110]; exact vu_s
                refine lv_aload_n hx hb dX11_test_113 rfl (lv_at hl 2 rfl) ?_
                refine lv_iload_n hx hb dX11_test_114 rfl (lv_at hl 3 rfl) ?_
                refine lv_iconst (v := 3) hx hb dX11_test_115 (by decide) ?_
                refine lv_iload hx hb dX11_test_116 (lv_at hl 7 rfl) ?_
                refine cQv (rV (As := [_, _, _]) ⟨hx, hb, hml, hown, hts⟩ hw (k_X11_sets l o1_3 a1_3 hn (ixm a 3) (by omega)) (cv_X11_sets hts tw_975 rfl rfl ⟨Nat.le_of_ble_eq_true rfl, Nat.le_of_ble_eq_true rfl⟩) (by decide) o1_3 rfl rfl hl.1 rfl (by first | exact Nat.le_of_ble_eq_true rfl | decide) dX11_test_118 ⟨Nat.zero_le _, Nat.zero_le _⟩) hw hS (fun w4 H locs hp118 hw hS => ?_)
                have o1_4 : w4 32 = .inr (9, [.ref (gad G 33), .ref (gad G 34), .ref (gad G 35), .int (nI n), .int (nI n1), .int z, .int hd, .int sd, .ref (gad G 36), .ref (gad G 37), .int (nI rn), .ref (gad G 38), .int (nI tn), .int fr, .int tto, .int tk, .int wo, .ref (gad G 39), .ref (gad G 40), .ref (gad G 41), .ref (gad G 42), .ref (gad G 43), .ref (gad G 44), .int (nI n2), .int (nI qn), .int iz, .int (bi im)]) := by rw [hp118]; exact (vu_e (by decide) o1_3)
                have a1_4 : w4 33 = .inl (gI G, 132, .inl (upd (upd (upd (upd f (a * 11 + 0) (h)) (a * 11 + 1) (t)) (a * 11 + 2) (lo)) (a * 11 + 3) (hi))) := by rw [hp118]; exact vu_s
                refine lv_iload hx hb dX11_test_121 (lv_at hl 0 rfl) ?_
                exact re_Q hx hb hr hlocks (rfl) hw hS dX11_test_123 (Or.inr ⟨a, ha, rfl, by simp [tOK, hnd, c2, c19, c28, c55, c66, c77], rfl, by rw [hp118, hp110, hp102, hp95, up_up, up_up, up_up]; rfl⟩)
              · refine lv_bipush (v := (-2)) hx hb dX11_test_80 (by decide) ?_
                exact re_Q hx hb hr hlocks (rfl) hw hS dX11_test_82 (Or.inl ⟨by simp [tOK, c2, c19, c28, c55, c66, c77, hnd], rfl, rfl⟩)
        · refine lv_iload_n hx hb dX11_test_36 rfl (lv_at hl 3 rfl) ?_
          refine lv_iconst (v := 2) hx hb dX11_test_37 (by decide) ?_
          refine lv_icmp_eq (tgt := 46) hx hb dX11_test_38 (by decide) (fun c38 => ?_) (fun c38 => ?_)
          · skip
            refine lv_iconst (v := 1) hx hb dX11_test_46 (by decide) ?_
            refine lv_goto (tgt := 51) hx hb dX11_test_47 (by decide) ?_
            have hnd : ndT h = true := by simp [ndT, c33, c38]
            refine lv_iload_n hx hb dX11_test_51 rfl (lv_at hl 4 rfl) ?_
            refine cSe (rST (As := [_, _]) ⟨hx, hb, hml, hown, hts⟩ (k_X11_isTrait_t l ) (cv_X11_isTrait hts tw_990 rfl rfl ⟨Nat.le_of_ble_eq_true rfl, Nat.le_of_ble_eq_true rfl⟩) rfl hl.1 rfl (by first | exact Nat.le_of_ble_eq_true rfl | decide) dX11_test_52 ⟨Nat.zero_le _, Nat.zero_le _⟩) ?_
            refine zb_eq (tgt := 80) hx hb dX11_test_55 (by decide) (fun c55 => ?_) (fun c55 => ?_)
            · refine lv_bipush (v := (-2)) hx hb dX11_test_80 (by decide) ?_
              exact re_Q hx hb hr hlocks (rfl) hw hS dX11_test_82 (Or.inl ⟨by simp [tOK, c2, c19, c28, c55, hnd], rfl, rfl⟩)
            · refine lv_iload hx hb dX11_test_58 (lv_at hl 5 rfl) ?_
              refine lv_iconst (v := 0) hx hb dX11_test_60 (by decide) ?_
              refine lv_iload hx hb dX11_test_61 (lv_at hl 0 rfl) ?_
              refine cSe (rST (As := [_, _, _]) ⟨hx, hb, hml, hown, hts⟩ (k_X11_in l ) (cv_X11_in hts tw_987 rfl rfl ⟨Nat.le_of_ble_eq_true rfl, Nat.le_of_ble_eq_true rfl⟩) rfl hl.1 rfl (by first | exact Nat.le_of_ble_eq_true rfl | decide) dX11_test_63 ⟨Nat.zero_le _, Nat.zero_le _⟩) ?_
              refine zb_eq (tgt := 80) hx hb dX11_test_66 (by decide) (fun c66 => ?_) (fun c66 => ?_)
              · refine lv_bipush (v := (-2)) hx hb dX11_test_80 (by decide) ?_
                exact re_Q hx hb hr hlocks (rfl) hw hS dX11_test_82 (Or.inl ⟨by simp [tOK, c2, c19, c28, c55, c66, hnd], rfl, rfl⟩)
              · refine lv_iload hx hb dX11_test_69 (lv_at hl 6 rfl) ?_
                refine lv_iconst (v := 0) hx hb dX11_test_71 (by decide) ?_
                refine lv_iload hx hb dX11_test_72 (lv_at hl 0 rfl) ?_
                refine cSe (rST (As := [_, _, _]) ⟨hx, hb, hml, hown, hts⟩ (k_X11_in l ) (cv_X11_in hts tw_987 rfl rfl ⟨Nat.le_of_ble_eq_true rfl, Nat.le_of_ble_eq_true rfl⟩) rfl hl.1 rfl (by first | exact Nat.le_of_ble_eq_true rfl | decide) dX11_test_74 ⟨Nat.zero_le _, Nat.zero_le _⟩) ?_
                refine zb_ne (tgt := 83) hx hb dX11_test_77 (by decide) (fun c77 => ?_) (fun c77 => ?_)
                · obtain ⟨a, ha, rfl⟩ := hasN_t hn c19
                  refine lv_aload_n hx hb dX11_test_83 rfl (lv_at hl 1 rfl) ?_
                  refine lv_iload_n hx hb dX11_test_84 rfl (lv_at hl 2 rfl) ?_
                  refine lv_iconst (v := 0) hx hb dX11_test_85 (by decide) ?_
                  refine cSe (rV (As := [_, _]) ⟨hx, hb, hml, hown, hts⟩ hw (k_X11_is l o1 a1 hn (ixm a 0) (by omega)) (cv_X11_is hts tw_993 rfl rfl ⟨Nat.le_of_ble_eq_true rfl, Nat.le_of_ble_eq_true rfl⟩) (by decide) o1 rfl rfl hl.1 rfl (by first | exact Nat.le_of_ble_eq_true rfl | decide) dX11_test_86 ⟨Nat.zero_le _, Nat.zero_le _⟩) ?_
                  refine lv_istore (lv' := [(7, _), (6, _), (0, _), (1, _), (2, _), (3, _), (4, _), (5, _)]) hx hb dX11_test_89 hl (by decide) rfl (fun ls hl => ?_)
                  refine lv_aload_n hx hb dX11_test_91 rfl (lv_at hl 2 rfl) ?_
                  refine lv_iload_n hx hb dX11_test_92 rfl (lv_at hl 3 rfl) ?_
                  refine lv_iconst (v := 0) hx hb dX11_test_93 (by decide) ?_
                  refine lv_iload_n hx hb dX11_test_94 rfl (lv_at hl 4 rfl) ?_
                  refine cQv (rV (As := [_, _, _]) ⟨hx, hb, hml, hown, hts⟩ hw (k_X11_sets l o1 a1 hn (ixm a 0) (by omega)) (cv_X11_sets hts tw_975 rfl rfl ⟨Nat.le_of_ble_eq_true rfl, Nat.le_of_ble_eq_true rfl⟩) (by decide) o1 rfl rfl hl.1 rfl (by first | exact Nat.le_of_ble_eq_true rfl | decide) dX11_test_95 ⟨Nat.zero_le _, Nat.zero_le _⟩) hw hS (fun w5 H locs hp95 hw hS => ?_)
                  have o1_5 : w5 32 = .inr (9, [.ref (gad G 33), .ref (gad G 34), .ref (gad G 35), .int (nI n), .int (nI n1), .int z, .int hd, .int sd, .ref (gad G 36), .ref (gad G 37), .int (nI rn), .ref (gad G 38), .int (nI tn), .int fr, .int tto, .int tk, .int wo, .ref (gad G 39), .ref (gad G 40), .ref (gad G 41), .ref (gad G 42), .ref (gad G 43), .ref (gad G 44), .int (nI n2), .int (nI qn), .int iz, .int (bi im)]) := by rw [hp95]; exact (vu_e (by decide) o1)
                  have a1_5 : w5 33 = .inl (gI G, 132, .inl (upd f (a * 11 + 0) (h))) := by rw [hp95]; exact vu_s
                  refine lv_aload_n hx hb dX11_test_98 rfl (lv_at hl 2 rfl) ?_
                  refine lv_iload_n hx hb dX11_test_99 rfl (lv_at hl 3 rfl) ?_
                  refine lv_iconst (v := 1) hx hb dX11_test_100 (by decide) ?_
                  refine lv_iload_n hx hb dX11_test_101 rfl (lv_at hl 5 rfl) ?_
                  refine cQv (rV (As := [_, _, _]) ⟨hx, hb, hml, hown, hts⟩ hw (k_X11_sets l o1_5 a1_5 hn (ixm a 1) (by omega)) (cv_X11_sets hts tw_975 rfl rfl ⟨Nat.le_of_ble_eq_true rfl, Nat.le_of_ble_eq_true rfl⟩) (by decide) o1_5 rfl rfl hl.1 rfl (by first | exact Nat.le_of_ble_eq_true rfl | decide) dX11_test_102 ⟨Nat.zero_le _, Nat.zero_le _⟩) hw hS (fun w6 H locs hp102 hw hS => ?_)
                  have o1_6 : w6 32 = .inr (9, [.ref (gad G 33), .ref (gad G 34), .ref (gad G 35), .int (nI n), .int (nI n1), .int z, .int hd, .int sd, .ref (gad G 36), .ref (gad G 37), .int (nI rn), .ref (gad G 38), .int (nI tn), .int fr, .int tto, .int tk, .int wo, .ref (gad G 39), .ref (gad G 40), .ref (gad G 41), .ref (gad G 42), .ref (gad G 43), .ref (gad G 44), .int (nI n2), .int (nI qn), .int iz, .int (bi im)]) := by rw [hp102]; exact (vu_e (by decide) o1_5)
                  have a1_6 : w6 33 = .inl (gI G, 132, .inl (upd (upd f (a * 11 + 0) (h)) (a * 11 + 1) (t))) := by rw [hp102]; exact vu_s
                  refine lv_aload_n hx hb dX11_test_105 rfl (lv_at hl 2 rfl) ?_
                  refine lv_iload_n hx hb dX11_test_106 rfl (lv_at hl 3 rfl) ?_
                  refine lv_iconst (v := 2) hx hb dX11_test_107 (by decide) ?_
                  refine lv_iload hx hb dX11_test_108 (lv_at hl 6 rfl) ?_
                  refine cQv (rV (As := [_, _, _]) ⟨hx, hb, hml, hown, hts⟩ hw (k_X11_sets l o1_6 a1_6 hn (ixm a 2) (by omega)) (cv_X11_sets hts tw_975 rfl rfl ⟨Nat.le_of_ble_eq_true rfl, Nat.le_of_ble_eq_true rfl⟩) (by decide) o1_6 rfl rfl hl.1 rfl (by first | exact Nat.le_of_ble_eq_true rfl | decide) dX11_test_110 ⟨Nat.zero_le _, Nat.zero_le _⟩) hw hS (fun w7 H locs hp110 hw hS => ?_)
                  have o1_7 : w7 32 = .inr (9, [.ref (gad G 33), .ref (gad G 34), .ref (gad G 35), .int (nI n), .int (nI n1), .int z, .int hd, .int sd, .ref (gad G 36), .ref (gad G 37), .int (nI rn), .ref (gad G 38), .int (nI tn), .int fr, .int tto, .int tk, .int wo, .ref (gad G 39), .ref (gad G 40), .ref (gad G 41), .ref (gad G 42), .ref (gad G 43), .ref (gad G 44), .int (nI n2), .int (nI qn), .int iz, .int (bi im)]) := by rw [hp110]; exact (vu_e (by decide) o1_6)
                  have a1_7 : w7 33 = .inl (gI G, 132, .inl (upd (upd (upd f (a * 11 + 0) (h)) (a * 11 + 1) (t)) (a * 11 + 2) (lo))) := by rw [hp110]; exact vu_s
                  refine lv_aload_n hx hb dX11_test_113 rfl (lv_at hl 2 rfl) ?_
                  refine lv_iload_n hx hb dX11_test_114 rfl (lv_at hl 3 rfl) ?_
                  refine lv_iconst (v := 3) hx hb dX11_test_115 (by decide) ?_
                  refine lv_iload hx hb dX11_test_116 (lv_at hl 7 rfl) ?_
                  refine cQv (rV (As := [_, _, _]) ⟨hx, hb, hml, hown, hts⟩ hw (k_X11_sets l o1_7 a1_7 hn (ixm a 3) (by omega)) (cv_X11_sets hts tw_975 rfl rfl ⟨Nat.le_of_ble_eq_true rfl, Nat.le_of_ble_eq_true rfl⟩) (by decide) o1_7 rfl rfl hl.1 rfl (by first | exact Nat.le_of_ble_eq_true rfl | decide) dX11_test_118 ⟨Nat.zero_le _, Nat.zero_le _⟩) hw hS (fun w8 H locs hp118 hw hS => ?_)
                  have o1_8 : w8 32 = .inr (9, [.ref (gad G 33), .ref (gad G 34), .ref (gad G 35), .int (nI n), .int (nI n1), .int z, .int hd, .int sd, .ref (gad G 36), .ref (gad G 37), .int (nI rn), .ref (gad G 38), .int (nI tn), .int fr, .int tto, .int tk, .int wo, .ref (gad G 39), .ref (gad G 40), .ref (gad G 41), .ref (gad G 42), .ref (gad G 43), .ref (gad G 44), .int (nI n2), .int (nI qn), .int iz, .int (bi im)]) := by rw [hp118]; exact (vu_e (by decide) o1_7)
                  have a1_8 : w8 33 = .inl (gI G, 132, .inl (upd (upd (upd (upd f (a * 11 + 0) (h)) (a * 11 + 1) (t)) (a * 11 + 2) (lo)) (a * 11 + 3) (hi))) := by rw [hp118]; exact vu_s
                  refine lv_iload hx hb dX11_test_121 (lv_at hl 0 rfl) ?_
                  exact re_Q hx hb hr hlocks (rfl) hw hS dX11_test_123 (Or.inr ⟨a, ha, rfl, by simp [tOK, hnd, c2, c19, c28, c55, c66, c77], rfl, by rw [hp118, hp110, hp102, hp95, up_up, up_up, up_up]; rfl⟩)
                · refine lv_bipush (v := (-2)) hx hb dX11_test_80 (by decide) ?_
                  exact re_Q hx hb hr hlocks (rfl) hw hS dX11_test_82 (Or.inl ⟨by simp [tOK, c2, c19, c28, c55, c66, c77, hnd], rfl, rfl⟩)
          · refine lv_iload_n hx hb dX11_test_41 rfl (lv_at hl 3 rfl) ?_
            refine lv_iconst (v := 4) hx hb dX11_test_42 (by decide) ?_
            refine lv_icmp_ne (tgt := 50) hx hb dX11_test_43 (by decide) (fun c43 => ?_) (fun c43 => ?_)
            · refine lv_iconst (v := 0) hx hb dX11_test_50 (by decide) ?_
              have hnd : ndT h = false := by simp [ndT, c33, c38, c43]
              refine lv_iload_n hx hb dX11_test_51 rfl (lv_at hl 4 rfl) ?_
              refine cSe (rST (As := [_, _]) ⟨hx, hb, hml, hown, hts⟩ (k_X11_isTrait_f l ) (cv_X11_isTrait hts tw_990 rfl rfl ⟨Nat.le_of_ble_eq_true rfl, Nat.le_of_ble_eq_true rfl⟩) rfl hl.1 rfl (by first | exact Nat.le_of_ble_eq_true rfl | decide) dX11_test_52 ⟨Nat.zero_le _, Nat.zero_le _⟩) ?_
              refine zb_eq (tgt := 80) hx hb dX11_test_55 (by decide) (fun c55 => ?_) (fun c55 => ?_)
              · refine lv_bipush (v := (-2)) hx hb dX11_test_80 (by decide) ?_
                exact re_Q hx hb hr hlocks (rfl) hw hS dX11_test_82 (Or.inl ⟨by simp [tOK, c2, c19, c28, c55, hnd], rfl, rfl⟩)
              · refine lv_iload hx hb dX11_test_58 (lv_at hl 5 rfl) ?_
                refine lv_iconst (v := 0) hx hb dX11_test_60 (by decide) ?_
                refine lv_iload hx hb dX11_test_61 (lv_at hl 0 rfl) ?_
                refine cSe (rST (As := [_, _, _]) ⟨hx, hb, hml, hown, hts⟩ (k_X11_in l ) (cv_X11_in hts tw_987 rfl rfl ⟨Nat.le_of_ble_eq_true rfl, Nat.le_of_ble_eq_true rfl⟩) rfl hl.1 rfl (by first | exact Nat.le_of_ble_eq_true rfl | decide) dX11_test_63 ⟨Nat.zero_le _, Nat.zero_le _⟩) ?_
                refine zb_eq (tgt := 80) hx hb dX11_test_66 (by decide) (fun c66 => ?_) (fun c66 => ?_)
                · refine lv_bipush (v := (-2)) hx hb dX11_test_80 (by decide) ?_
                  exact re_Q hx hb hr hlocks (rfl) hw hS dX11_test_82 (Or.inl ⟨by simp [tOK, c2, c19, c28, c55, c66, hnd], rfl, rfl⟩)
                · refine lv_iload hx hb dX11_test_69 (lv_at hl 6 rfl) ?_
                  refine lv_iconst (v := 0) hx hb dX11_test_71 (by decide) ?_
                  refine lv_iload hx hb dX11_test_72 (lv_at hl 0 rfl) ?_
                  refine cSe (rST (As := [_, _, _]) ⟨hx, hb, hml, hown, hts⟩ (k_X11_in l ) (cv_X11_in hts tw_987 rfl rfl ⟨Nat.le_of_ble_eq_true rfl, Nat.le_of_ble_eq_true rfl⟩) rfl hl.1 rfl (by first | exact Nat.le_of_ble_eq_true rfl | decide) dX11_test_74 ⟨Nat.zero_le _, Nat.zero_le _⟩) ?_
                  refine zb_ne (tgt := 83) hx hb dX11_test_77 (by decide) (fun c77 => ?_) (fun c77 => ?_)
                  · obtain ⟨a, ha, rfl⟩ := hasN_t hn c19
                    refine lv_aload_n hx hb dX11_test_83 rfl (lv_at hl 1 rfl) ?_
                    refine lv_iload_n hx hb dX11_test_84 rfl (lv_at hl 2 rfl) ?_
                    refine lv_iconst (v := 0) hx hb dX11_test_85 (by decide) ?_
                    refine cSe (rV (As := [_, _]) ⟨hx, hb, hml, hown, hts⟩ hw (k_X11_is l o1 a1 hn (ixm a 0) (by omega)) (cv_X11_is hts tw_993 rfl rfl ⟨Nat.le_of_ble_eq_true rfl, Nat.le_of_ble_eq_true rfl⟩) (by decide) o1 rfl rfl hl.1 rfl (by first | exact Nat.le_of_ble_eq_true rfl | decide) dX11_test_86 ⟨Nat.zero_le _, Nat.zero_le _⟩) ?_
                    refine lv_istore (lv' := [(7, _), (6, _), (0, _), (1, _), (2, _), (3, _), (4, _), (5, _)]) hx hb dX11_test_89 hl (by decide) rfl (fun ls hl => ?_)
                    refine lv_aload_n hx hb dX11_test_91 rfl (lv_at hl 2 rfl) ?_
                    refine lv_iload_n hx hb dX11_test_92 rfl (lv_at hl 3 rfl) ?_
                    refine lv_iconst (v := 0) hx hb dX11_test_93 (by decide) ?_
                    refine lv_iload_n hx hb dX11_test_94 rfl (lv_at hl 4 rfl) ?_
                    refine cQv (rV (As := [_, _, _]) ⟨hx, hb, hml, hown, hts⟩ hw (k_X11_sets l o1 a1 hn (ixm a 0) (by omega)) (cv_X11_sets hts tw_975 rfl rfl ⟨Nat.le_of_ble_eq_true rfl, Nat.le_of_ble_eq_true rfl⟩) (by decide) o1 rfl rfl hl.1 rfl (by first | exact Nat.le_of_ble_eq_true rfl | decide) dX11_test_95 ⟨Nat.zero_le _, Nat.zero_le _⟩) hw hS (fun w9 H locs hp95 hw hS => ?_)
                    have o1_9 : w9 32 = .inr (9, [.ref (gad G 33), .ref (gad G 34), .ref (gad G 35), .int (nI n), .int (nI n1), .int z, .int hd, .int sd, .ref (gad G 36), .ref (gad G 37), .int (nI rn), .ref (gad G 38), .int (nI tn), .int fr, .int tto, .int tk, .int wo, .ref (gad G 39), .ref (gad G 40), .ref (gad G 41), .ref (gad G 42), .ref (gad G 43), .ref (gad G 44), .int (nI n2), .int (nI qn), .int iz, .int (bi im)]) := by rw [hp95]; exact (vu_e (by decide) o1)
                    have a1_9 : w9 33 = .inl (gI G, 132, .inl (upd f (a * 11 + 0) (h))) := by rw [hp95]; exact vu_s
                    refine lv_aload_n hx hb dX11_test_98 rfl (lv_at hl 2 rfl) ?_
                    refine lv_iload_n hx hb dX11_test_99 rfl (lv_at hl 3 rfl) ?_
                    refine lv_iconst (v := 1) hx hb dX11_test_100 (by decide) ?_
                    refine lv_iload_n hx hb dX11_test_101 rfl (lv_at hl 5 rfl) ?_
                    refine cQv (rV (As := [_, _, _]) ⟨hx, hb, hml, hown, hts⟩ hw (k_X11_sets l o1_9 a1_9 hn (ixm a 1) (by omega)) (cv_X11_sets hts tw_975 rfl rfl ⟨Nat.le_of_ble_eq_true rfl, Nat.le_of_ble_eq_true rfl⟩) (by decide) o1_9 rfl rfl hl.1 rfl (by first | exact Nat.le_of_ble_eq_true rfl | decide) dX11_test_102 ⟨Nat.zero_le _, Nat.zero_le _⟩) hw hS (fun w10 H locs hp102 hw hS => ?_)
                    have o1_10 : w10 32 = .inr (9, [.ref (gad G 33), .ref (gad G 34), .ref (gad G 35), .int (nI n), .int (nI n1), .int z, .int hd, .int sd, .ref (gad G 36), .ref (gad G 37), .int (nI rn), .ref (gad G 38), .int (nI tn), .int fr, .int tto, .int tk, .int wo, .ref (gad G 39), .ref (gad G 40), .ref (gad G 41), .ref (gad G 42), .ref (gad G 43), .ref (gad G 44), .int (nI n2), .int (nI qn), .int iz, .int (bi im)]) := by rw [hp102]; exact (vu_e (by decide) o1_9)
                    have a1_10 : w10 33 = .inl (gI G, 132, .inl (upd (upd f (a * 11 + 0) (h)) (a * 11 + 1) (t))) := by rw [hp102]; exact vu_s
                    refine lv_aload_n hx hb dX11_test_105 rfl (lv_at hl 2 rfl) ?_
                    refine lv_iload_n hx hb dX11_test_106 rfl (lv_at hl 3 rfl) ?_
                    refine lv_iconst (v := 2) hx hb dX11_test_107 (by decide) ?_
                    refine lv_iload hx hb dX11_test_108 (lv_at hl 6 rfl) ?_
                    refine cQv (rV (As := [_, _, _]) ⟨hx, hb, hml, hown, hts⟩ hw (k_X11_sets l o1_10 a1_10 hn (ixm a 2) (by omega)) (cv_X11_sets hts tw_975 rfl rfl ⟨Nat.le_of_ble_eq_true rfl, Nat.le_of_ble_eq_true rfl⟩) (by decide) o1_10 rfl rfl hl.1 rfl (by first | exact Nat.le_of_ble_eq_true rfl | decide) dX11_test_110 ⟨Nat.zero_le _, Nat.zero_le _⟩) hw hS (fun w11 H locs hp110 hw hS => ?_)
                    have o1_11 : w11 32 = .inr (9, [.ref (gad G 33), .ref (gad G 34), .ref (gad G 35), .int (nI n), .int (nI n1), .int z, .int hd, .int sd, .ref (gad G 36), .ref (gad G 37), .int (nI rn), .ref (gad G 38), .int (nI tn), .int fr, .int tto, .int tk, .int wo, .ref (gad G 39), .ref (gad G 40), .ref (gad G 41), .ref (gad G 42), .ref (gad G 43), .ref (gad G 44), .int (nI n2), .int (nI qn), .int iz, .int (bi im)]) := by rw [hp110]; exact (vu_e (by decide) o1_10)
                    have a1_11 : w11 33 = .inl (gI G, 132, .inl (upd (upd (upd f (a * 11 + 0) (h)) (a * 11 + 1) (t)) (a * 11 + 2) (lo))) := by rw [hp110]; exact vu_s
                    refine lv_aload_n hx hb dX11_test_113 rfl (lv_at hl 2 rfl) ?_
                    refine lv_iload_n hx hb dX11_test_114 rfl (lv_at hl 3 rfl) ?_
                    refine lv_iconst (v := 3) hx hb dX11_test_115 (by decide) ?_
                    refine lv_iload hx hb dX11_test_116 (lv_at hl 7 rfl) ?_
                    refine cQv (rV (As := [_, _, _]) ⟨hx, hb, hml, hown, hts⟩ hw (k_X11_sets l o1_11 a1_11 hn (ixm a 3) (by omega)) (cv_X11_sets hts tw_975 rfl rfl ⟨Nat.le_of_ble_eq_true rfl, Nat.le_of_ble_eq_true rfl⟩) (by decide) o1_11 rfl rfl hl.1 rfl (by first | exact Nat.le_of_ble_eq_true rfl | decide) dX11_test_118 ⟨Nat.zero_le _, Nat.zero_le _⟩) hw hS (fun w12 H locs hp118 hw hS => ?_)
                    have o1_12 : w12 32 = .inr (9, [.ref (gad G 33), .ref (gad G 34), .ref (gad G 35), .int (nI n), .int (nI n1), .int z, .int hd, .int sd, .ref (gad G 36), .ref (gad G 37), .int (nI rn), .ref (gad G 38), .int (nI tn), .int fr, .int tto, .int tk, .int wo, .ref (gad G 39), .ref (gad G 40), .ref (gad G 41), .ref (gad G 42), .ref (gad G 43), .ref (gad G 44), .int (nI n2), .int (nI qn), .int iz, .int (bi im)]) := by rw [hp118]; exact (vu_e (by decide) o1_11)
                    have a1_12 : w12 33 = .inl (gI G, 132, .inl (upd (upd (upd (upd f (a * 11 + 0) (h)) (a * 11 + 1) (t)) (a * 11 + 2) (lo)) (a * 11 + 3) (hi))) := by rw [hp118]; exact vu_s
                    refine lv_iload hx hb dX11_test_121 (lv_at hl 0 rfl) ?_
                    exact re_Q hx hb hr hlocks (rfl) hw hS dX11_test_123 (Or.inr ⟨a, ha, rfl, by simp [tOK, hnd, c2, c19, c28, c55, c66, c77], rfl, by rw [hp118, hp110, hp102, hp95, up_up, up_up, up_up]; rfl⟩)
                  · refine lv_bipush (v := (-2)) hx hb dX11_test_80 (by decide) ?_
                    exact re_Q hx hb hr hlocks (rfl) hw hS dX11_test_82 (Or.inl ⟨by simp [tOK, c2, c19, c28, c55, c66, c77, hnd], rfl, rfl⟩)
            · skip
              refine lv_iconst (v := 1) hx hb dX11_test_46 (by decide) ?_
              refine lv_goto (tgt := 51) hx hb dX11_test_47 (by decide) ?_
              have hnd : ndT h = true := by simp [ndT, c33, c38, c43]
              refine lv_iload_n hx hb dX11_test_51 rfl (lv_at hl 4 rfl) ?_
              refine cSe (rST (As := [_, _]) ⟨hx, hb, hml, hown, hts⟩ (k_X11_isTrait_t l ) (cv_X11_isTrait hts tw_990 rfl rfl ⟨Nat.le_of_ble_eq_true rfl, Nat.le_of_ble_eq_true rfl⟩) rfl hl.1 rfl (by first | exact Nat.le_of_ble_eq_true rfl | decide) dX11_test_52 ⟨Nat.zero_le _, Nat.zero_le _⟩) ?_
              refine zb_eq (tgt := 80) hx hb dX11_test_55 (by decide) (fun c55 => ?_) (fun c55 => ?_)
              · refine lv_bipush (v := (-2)) hx hb dX11_test_80 (by decide) ?_
                exact re_Q hx hb hr hlocks (rfl) hw hS dX11_test_82 (Or.inl ⟨by simp [tOK, c2, c19, c28, c55, hnd], rfl, rfl⟩)
              · refine lv_iload hx hb dX11_test_58 (lv_at hl 5 rfl) ?_
                refine lv_iconst (v := 0) hx hb dX11_test_60 (by decide) ?_
                refine lv_iload hx hb dX11_test_61 (lv_at hl 0 rfl) ?_
                refine cSe (rST (As := [_, _, _]) ⟨hx, hb, hml, hown, hts⟩ (k_X11_in l ) (cv_X11_in hts tw_987 rfl rfl ⟨Nat.le_of_ble_eq_true rfl, Nat.le_of_ble_eq_true rfl⟩) rfl hl.1 rfl (by first | exact Nat.le_of_ble_eq_true rfl | decide) dX11_test_63 ⟨Nat.zero_le _, Nat.zero_le _⟩) ?_
                refine zb_eq (tgt := 80) hx hb dX11_test_66 (by decide) (fun c66 => ?_) (fun c66 => ?_)
                · refine lv_bipush (v := (-2)) hx hb dX11_test_80 (by decide) ?_
                  exact re_Q hx hb hr hlocks (rfl) hw hS dX11_test_82 (Or.inl ⟨by simp [tOK, c2, c19, c28, c55, c66, hnd], rfl, rfl⟩)
                · refine lv_iload hx hb dX11_test_69 (lv_at hl 6 rfl) ?_
                  refine lv_iconst (v := 0) hx hb dX11_test_71 (by decide) ?_
                  refine lv_iload hx hb dX11_test_72 (lv_at hl 0 rfl) ?_
                  refine cSe (rST (As := [_, _, _]) ⟨hx, hb, hml, hown, hts⟩ (k_X11_in l ) (cv_X11_in hts tw_987 rfl rfl ⟨Nat.le_of_ble_eq_true rfl, Nat.le_of_ble_eq_true rfl⟩) rfl hl.1 rfl (by first | exact Nat.le_of_ble_eq_true rfl | decide) dX11_test_74 ⟨Nat.zero_le _, Nat.zero_le _⟩) ?_
                  refine zb_ne (tgt := 83) hx hb dX11_test_77 (by decide) (fun c77 => ?_) (fun c77 => ?_)
                  · obtain ⟨a, ha, rfl⟩ := hasN_t hn c19
                    refine lv_aload_n hx hb dX11_test_83 rfl (lv_at hl 1 rfl) ?_
                    refine lv_iload_n hx hb dX11_test_84 rfl (lv_at hl 2 rfl) ?_
                    refine lv_iconst (v := 0) hx hb dX11_test_85 (by decide) ?_
                    refine cSe (rV (As := [_, _]) ⟨hx, hb, hml, hown, hts⟩ hw (k_X11_is l o1 a1 hn (ixm a 0) (by omega)) (cv_X11_is hts tw_993 rfl rfl ⟨Nat.le_of_ble_eq_true rfl, Nat.le_of_ble_eq_true rfl⟩) (by decide) o1 rfl rfl hl.1 rfl (by first | exact Nat.le_of_ble_eq_true rfl | decide) dX11_test_86 ⟨Nat.zero_le _, Nat.zero_le _⟩) ?_
                    refine lv_istore (lv' := [(7, _), (6, _), (0, _), (1, _), (2, _), (3, _), (4, _), (5, _)]) hx hb dX11_test_89 hl (by decide) rfl (fun ls hl => ?_)
                    refine lv_aload_n hx hb dX11_test_91 rfl (lv_at hl 2 rfl) ?_
                    refine lv_iload_n hx hb dX11_test_92 rfl (lv_at hl 3 rfl) ?_
                    refine lv_iconst (v := 0) hx hb dX11_test_93 (by decide) ?_
                    refine lv_iload_n hx hb dX11_test_94 rfl (lv_at hl 4 rfl) ?_
                    refine cQv (rV (As := [_, _, _]) ⟨hx, hb, hml, hown, hts⟩ hw (k_X11_sets l o1 a1 hn (ixm a 0) (by omega)) (cv_X11_sets hts tw_975 rfl rfl ⟨Nat.le_of_ble_eq_true rfl, Nat.le_of_ble_eq_true rfl⟩) (by decide) o1 rfl rfl hl.1 rfl (by first | exact Nat.le_of_ble_eq_true rfl | decide) dX11_test_95 ⟨Nat.zero_le _, Nat.zero_le _⟩) hw hS (fun w13 H locs hp95 hw hS => ?_)
                    have o1_13 : w13 32 = .inr (9, [.ref (gad G 33), .ref (gad G 34), .ref (gad G 35), .int (nI n), .int (nI n1), .int z, .int hd, .int sd, .ref (gad G 36), .ref (gad G 37), .int (nI rn), .ref (gad G 38), .int (nI tn), .int fr, .int tto, .int tk, .int wo, .ref (gad G 39), .ref (gad G 40), .ref (gad G 41), .ref (gad G 42), .ref (gad G 43), .ref (gad G 44), .int (nI n2), .int (nI qn), .int iz, .int (bi im)]) := by rw [hp95]; exact (vu_e (by decide) o1)
                    have a1_13 : w13 33 = .inl (gI G, 132, .inl (upd f (a * 11 + 0) (h))) := by rw [hp95]; exact vu_s
                    refine lv_aload_n hx hb dX11_test_98 rfl (lv_at hl 2 rfl) ?_
                    refine lv_iload_n hx hb dX11_test_99 rfl (lv_at hl 3 rfl) ?_
                    refine lv_iconst (v := 1) hx hb dX11_test_100 (by decide) ?_
                    refine lv_iload_n hx hb dX11_test_101 rfl (lv_at hl 5 rfl) ?_
                    refine cQv (rV (As := [_, _, _]) ⟨hx, hb, hml, hown, hts⟩ hw (k_X11_sets l o1_13 a1_13 hn (ixm a 1) (by omega)) (cv_X11_sets hts tw_975 rfl rfl ⟨Nat.le_of_ble_eq_true rfl, Nat.le_of_ble_eq_true rfl⟩) (by decide) o1_13 rfl rfl hl.1 rfl (by first | exact Nat.le_of_ble_eq_true rfl | decide) dX11_test_102 ⟨Nat.zero_le _, Nat.zero_le _⟩) hw hS (fun w14 H locs hp102 hw hS => ?_)
                    have o1_14 : w14 32 = .inr (9, [.ref (gad G 33), .ref (gad G 34), .ref (gad G 35), .int (nI n), .int (nI n1), .int z, .int hd, .int sd, .ref (gad G 36), .ref (gad G 37), .int (nI rn), .ref (gad G 38), .int (nI tn), .int fr, .int tto, .int tk, .int wo, .ref (gad G 39), .ref (gad G 40), .ref (gad G 41), .ref (gad G 42), .ref (gad G 43), .ref (gad G 44), .int (nI n2), .int (nI qn), .int iz, .int (bi im)]) := by rw [hp102]; exact (vu_e (by decide) o1_13)
                    have a1_14 : w14 33 = .inl (gI G, 132, .inl (upd (upd f (a * 11 + 0) (h)) (a * 11 + 1) (t))) := by rw [hp102]; exact vu_s
                    refine lv_aload_n hx hb dX11_test_105 rfl (lv_at hl 2 rfl) ?_
                    refine lv_iload_n hx hb dX11_test_106 rfl (lv_at hl 3 rfl) ?_
                    refine lv_iconst (v := 2) hx hb dX11_test_107 (by decide) ?_
                    refine lv_iload hx hb dX11_test_108 (lv_at hl 6 rfl) ?_
                    refine cQv (rV (As := [_, _, _]) ⟨hx, hb, hml, hown, hts⟩ hw (k_X11_sets l o1_14 a1_14 hn (ixm a 2) (by omega)) (cv_X11_sets hts tw_975 rfl rfl ⟨Nat.le_of_ble_eq_true rfl, Nat.le_of_ble_eq_true rfl⟩) (by decide) o1_14 rfl rfl hl.1 rfl (by first | exact Nat.le_of_ble_eq_true rfl | decide) dX11_test_110 ⟨Nat.zero_le _, Nat.zero_le _⟩) hw hS (fun w15 H locs hp110 hw hS => ?_)
                    have o1_15 : w15 32 = .inr (9, [.ref (gad G 33), .ref (gad G 34), .ref (gad G 35), .int (nI n), .int (nI n1), .int z, .int hd, .int sd, .ref (gad G 36), .ref (gad G 37), .int (nI rn), .ref (gad G 38), .int (nI tn), .int fr, .int tto, .int tk, .int wo, .ref (gad G 39), .ref (gad G 40), .ref (gad G 41), .ref (gad G 42), .ref (gad G 43), .ref (gad G 44), .int (nI n2), .int (nI qn), .int iz, .int (bi im)]) := by rw [hp110]; exact (vu_e (by decide) o1_14)
                    have a1_15 : w15 33 = .inl (gI G, 132, .inl (upd (upd (upd f (a * 11 + 0) (h)) (a * 11 + 1) (t)) (a * 11 + 2) (lo))) := by rw [hp110]; exact vu_s
                    refine lv_aload_n hx hb dX11_test_113 rfl (lv_at hl 2 rfl) ?_
                    refine lv_iload_n hx hb dX11_test_114 rfl (lv_at hl 3 rfl) ?_
                    refine lv_iconst (v := 3) hx hb dX11_test_115 (by decide) ?_
                    refine lv_iload hx hb dX11_test_116 (lv_at hl 7 rfl) ?_
                    refine cQv (rV (As := [_, _, _]) ⟨hx, hb, hml, hown, hts⟩ hw (k_X11_sets l o1_15 a1_15 hn (ixm a 3) (by omega)) (cv_X11_sets hts tw_975 rfl rfl ⟨Nat.le_of_ble_eq_true rfl, Nat.le_of_ble_eq_true rfl⟩) (by decide) o1_15 rfl rfl hl.1 rfl (by first | exact Nat.le_of_ble_eq_true rfl | decide) dX11_test_118 ⟨Nat.zero_le _, Nat.zero_le _⟩) hw hS (fun w16 H locs hp118 hw hS => ?_)
                    have o1_16 : w16 32 = .inr (9, [.ref (gad G 33), .ref (gad G 34), .ref (gad G 35), .int (nI n), .int (nI n1), .int z, .int hd, .int sd, .ref (gad G 36), .ref (gad G 37), .int (nI rn), .ref (gad G 38), .int (nI tn), .int fr, .int tto, .int tk, .int wo, .ref (gad G 39), .ref (gad G 40), .ref (gad G 41), .ref (gad G 42), .ref (gad G 43), .ref (gad G 44), .int (nI n2), .int (nI qn), .int iz, .int (bi im)]) := by rw [hp118]; exact (vu_e (by decide) o1_15)
                    have a1_16 : w16 33 = .inl (gI G, 132, .inl (upd (upd (upd (upd f (a * 11 + 0) (h)) (a * 11 + 1) (t)) (a * 11 + 2) (lo)) (a * 11 + 3) (hi))) := by rw [hp118]; exact vu_s
                    refine lv_iload hx hb dX11_test_121 (lv_at hl 0 rfl) ?_
                    exact re_Q hx hb hr hlocks (rfl) hw hS dX11_test_123 (Or.inr ⟨a, ha, rfl, by simp [tOK, hnd, c2, c19, c28, c55, c66, c77], rfl, by rw [hp118, hp110, hp102, hp95, up_up, up_up, up_up]; rfl⟩)
                  · refine lv_bipush (v := (-2)) hx hb dX11_test_80 (by decide) ?_
                    exact re_Q hx hb hr hlocks (rfl) hw hS dX11_test_82 (Or.inl ⟨by simp [tOK, c2, c19, c28, c55, c66, c77, hnd], rfl, rfl⟩)
  · refine lv_bipush (v := 31) hx hb dX11_test_5 (by decide) ?_
    refine lv_goto (tgt := 12) hx hb dX11_test_7 (by decide) ?_
    refine lv_istore (lv' := [(6, _), (0, _), (1, _), (2, _), (3, _), (4, _), (5, _)]) hx hb dX11_test_12 hl (by decide) rfl (fun ls hl => ?_)
    refine lv_aload_n hx hb dX11_test_14 rfl (lv_at hl 1 rfl) ?_
    refine lv_iload_n hx hb dX11_test_15 rfl (lv_at hl 2 rfl) ?_
    refine cSe (rV (As := [_]) ⟨hx, hb, hml, hown, hts⟩ hw (k_X11_isClause l o1 a1 hn) (cv_X11_isClause hts tw_983 rfl rfl ⟨Nat.le_of_ble_eq_true rfl, Nat.le_of_ble_eq_true rfl⟩) (by decide) o1 rfl rfl hl.1 rfl (by first | exact Nat.le_of_ble_eq_true rfl | decide) dX11_test_16 ⟨Nat.zero_le _, Nat.zero_le _⟩) ?_
    refine zb_eq (tgt := 80) hx hb dX11_test_19 (by decide) (fun c19 => ?_) (fun c19 => ?_)
    · refine lv_bipush (v := (-2)) hx hb dX11_test_80 (by decide) ?_
      exact re_Q hx hb hr hlocks (rfl) hw hS dX11_test_82 (Or.inl ⟨by simp [tOK, if_pos c2, c19], rfl, rfl⟩)
    · refine lv_iload_n hx hb dX11_test_22 rfl (lv_at hl 3 rfl) ?_
      refine lv_iconst (v := 0) hx hb dX11_test_23 (by decide) ?_
      refine lv_iconst (v := 5) hx hb dX11_test_24 (by decide) ?_
      refine cSe (rST (As := [_, _, _]) ⟨hx, hb, hml, hown, hts⟩ (k_X11_in l ) (cv_X11_in hts tw_987 rfl rfl ⟨Nat.le_of_ble_eq_true rfl, Nat.le_of_ble_eq_true rfl⟩) rfl hl.1 rfl (by first | exact Nat.le_of_ble_eq_true rfl | decide) dX11_test_25 ⟨Nat.zero_le _, Nat.zero_le _⟩) ?_
      refine zb_eq (tgt := 80) hx hb dX11_test_28 (by decide) (fun c28 => ?_) (fun c28 => ?_)
      · refine lv_bipush (v := (-2)) hx hb dX11_test_80 (by decide) ?_
        exact re_Q hx hb hr hlocks (rfl) hw hS dX11_test_82 (Or.inl ⟨by simp [tOK, if_pos c2, c19, c28], rfl, rfl⟩)
      · refine lv_iload_n hx hb dX11_test_31 rfl (lv_at hl 3 rfl) ?_
        refine lv_iconst (v := 1) hx hb dX11_test_32 (by decide) ?_
        refine lv_icmp_eq (tgt := 46) hx hb dX11_test_33 (by decide) (fun c33 => ?_) (fun c33 => ?_)
        · skip
          refine lv_iconst (v := 1) hx hb dX11_test_46 (by decide) ?_
          refine lv_goto (tgt := 51) hx hb dX11_test_47 (by decide) ?_
          have hnd : ndT h = true := by simp [ndT, c33]
          refine lv_iload_n hx hb dX11_test_51 rfl (lv_at hl 4 rfl) ?_
          refine cSe (rST (As := [_, _]) ⟨hx, hb, hml, hown, hts⟩ (k_X11_isTrait_t l ) (cv_X11_isTrait hts tw_990 rfl rfl ⟨Nat.le_of_ble_eq_true rfl, Nat.le_of_ble_eq_true rfl⟩) rfl hl.1 rfl (by first | exact Nat.le_of_ble_eq_true rfl | decide) dX11_test_52 ⟨Nat.zero_le _, Nat.zero_le _⟩) ?_
          refine zb_eq (tgt := 80) hx hb dX11_test_55 (by decide) (fun c55 => ?_) (fun c55 => ?_)
          · refine lv_bipush (v := (-2)) hx hb dX11_test_80 (by decide) ?_
            exact re_Q hx hb hr hlocks (rfl) hw hS dX11_test_82 (Or.inl ⟨by simp [tOK, if_pos c2, c19, c28, c55, hnd], rfl, rfl⟩)
          · refine lv_iload hx hb dX11_test_58 (lv_at hl 5 rfl) ?_
            refine lv_iconst (v := 0) hx hb dX11_test_60 (by decide) ?_
            refine lv_iload hx hb dX11_test_61 (lv_at hl 0 rfl) ?_
            refine cSe (rST (As := [_, _, _]) ⟨hx, hb, hml, hown, hts⟩ (k_X11_in l ) (cv_X11_in hts tw_987 rfl rfl ⟨Nat.le_of_ble_eq_true rfl, Nat.le_of_ble_eq_true rfl⟩) rfl hl.1 rfl (by first | exact Nat.le_of_ble_eq_true rfl | decide) dX11_test_63 ⟨Nat.zero_le _, Nat.zero_le _⟩) ?_
            refine zb_eq (tgt := 80) hx hb dX11_test_66 (by decide) (fun c66 => ?_) (fun c66 => ?_)
            · refine lv_bipush (v := (-2)) hx hb dX11_test_80 (by decide) ?_
              exact re_Q hx hb hr hlocks (rfl) hw hS dX11_test_82 (Or.inl ⟨by simp [tOK, if_pos c2, c19, c28, c55, c66, hnd], rfl, rfl⟩)
            · refine lv_iload hx hb dX11_test_69 (lv_at hl 6 rfl) ?_
              refine lv_iconst (v := 0) hx hb dX11_test_71 (by decide) ?_
              refine lv_iload hx hb dX11_test_72 (lv_at hl 0 rfl) ?_
              refine cSe (rST (As := [_, _, _]) ⟨hx, hb, hml, hown, hts⟩ (k_X11_in l ) (cv_X11_in hts tw_987 rfl rfl ⟨Nat.le_of_ble_eq_true rfl, Nat.le_of_ble_eq_true rfl⟩) rfl hl.1 rfl (by first | exact Nat.le_of_ble_eq_true rfl | decide) dX11_test_74 ⟨Nat.zero_le _, Nat.zero_le _⟩) ?_
              refine zb_ne (tgt := 83) hx hb dX11_test_77 (by decide) (fun c77 => ?_) (fun c77 => ?_)
              · obtain ⟨a, ha, rfl⟩ := hasN_t hn c19
                refine lv_aload_n hx hb dX11_test_83 rfl (lv_at hl 1 rfl) ?_
                refine lv_iload_n hx hb dX11_test_84 rfl (lv_at hl 2 rfl) ?_
                refine lv_iconst (v := 0) hx hb dX11_test_85 (by decide) ?_
                refine cSe (rV (As := [_, _]) ⟨hx, hb, hml, hown, hts⟩ hw (k_X11_is l o1 a1 hn (ixm a 0) (by omega)) (cv_X11_is hts tw_993 rfl rfl ⟨Nat.le_of_ble_eq_true rfl, Nat.le_of_ble_eq_true rfl⟩) (by decide) o1 rfl rfl hl.1 rfl (by first | exact Nat.le_of_ble_eq_true rfl | decide) dX11_test_86 ⟨Nat.zero_le _, Nat.zero_le _⟩) ?_
                refine lv_istore (lv' := [(7, _), (6, _), (0, _), (1, _), (2, _), (3, _), (4, _), (5, _)]) hx hb dX11_test_89 hl (by decide) rfl (fun ls hl => ?_)
                refine lv_aload_n hx hb dX11_test_91 rfl (lv_at hl 2 rfl) ?_
                refine lv_iload_n hx hb dX11_test_92 rfl (lv_at hl 3 rfl) ?_
                refine lv_iconst (v := 0) hx hb dX11_test_93 (by decide) ?_
                refine lv_iload_n hx hb dX11_test_94 rfl (lv_at hl 4 rfl) ?_
                refine cQv (rV (As := [_, _, _]) ⟨hx, hb, hml, hown, hts⟩ hw (k_X11_sets l o1 a1 hn (ixm a 0) (by omega)) (cv_X11_sets hts tw_975 rfl rfl ⟨Nat.le_of_ble_eq_true rfl, Nat.le_of_ble_eq_true rfl⟩) (by decide) o1 rfl rfl hl.1 rfl (by first | exact Nat.le_of_ble_eq_true rfl | decide) dX11_test_95 ⟨Nat.zero_le _, Nat.zero_le _⟩) hw hS (fun w17 H locs hp95 hw hS => ?_)
                have o1_17 : w17 32 = .inr (9, [.ref (gad G 33), .ref (gad G 34), .ref (gad G 35), .int (nI n), .int (nI n1), .int z, .int hd, .int sd, .ref (gad G 36), .ref (gad G 37), .int (nI rn), .ref (gad G 38), .int (nI tn), .int fr, .int tto, .int tk, .int wo, .ref (gad G 39), .ref (gad G 40), .ref (gad G 41), .ref (gad G 42), .ref (gad G 43), .ref (gad G 44), .int (nI n2), .int (nI qn), .int iz, .int (bi im)]) := by rw [hp95]; exact (vu_e (by decide) o1)
                have a1_17 : w17 33 = .inl (gI G, 132, .inl (upd f (a * 11 + 0) (h))) := by rw [hp95]; exact vu_s
                refine lv_aload_n hx hb dX11_test_98 rfl (lv_at hl 2 rfl) ?_
                refine lv_iload_n hx hb dX11_test_99 rfl (lv_at hl 3 rfl) ?_
                refine lv_iconst (v := 1) hx hb dX11_test_100 (by decide) ?_
                refine lv_iload_n hx hb dX11_test_101 rfl (lv_at hl 5 rfl) ?_
                refine cQv (rV (As := [_, _, _]) ⟨hx, hb, hml, hown, hts⟩ hw (k_X11_sets l o1_17 a1_17 hn (ixm a 1) (by omega)) (cv_X11_sets hts tw_975 rfl rfl ⟨Nat.le_of_ble_eq_true rfl, Nat.le_of_ble_eq_true rfl⟩) (by decide) o1_17 rfl rfl hl.1 rfl (by first | exact Nat.le_of_ble_eq_true rfl | decide) dX11_test_102 ⟨Nat.zero_le _, Nat.zero_le _⟩) hw hS (fun w18 H locs hp102 hw hS => ?_)
                have o1_18 : w18 32 = .inr (9, [.ref (gad G 33), .ref (gad G 34), .ref (gad G 35), .int (nI n), .int (nI n1), .int z, .int hd, .int sd, .ref (gad G 36), .ref (gad G 37), .int (nI rn), .ref (gad G 38), .int (nI tn), .int fr, .int tto, .int tk, .int wo, .ref (gad G 39), .ref (gad G 40), .ref (gad G 41), .ref (gad G 42), .ref (gad G 43), .ref (gad G 44), .int (nI n2), .int (nI qn), .int iz, .int (bi im)]) := by rw [hp102]; exact (vu_e (by decide) o1_17)
                have a1_18 : w18 33 = .inl (gI G, 132, .inl (upd (upd f (a * 11 + 0) (h)) (a * 11 + 1) (t))) := by rw [hp102]; exact vu_s
                refine lv_aload_n hx hb dX11_test_105 rfl (lv_at hl 2 rfl) ?_
                refine lv_iload_n hx hb dX11_test_106 rfl (lv_at hl 3 rfl) ?_
                refine lv_iconst (v := 2) hx hb dX11_test_107 (by decide) ?_
                refine lv_iload hx hb dX11_test_108 (lv_at hl 6 rfl) ?_
                refine cQv (rV (As := [_, _, _]) ⟨hx, hb, hml, hown, hts⟩ hw (k_X11_sets l o1_18 a1_18 hn (ixm a 2) (by omega)) (cv_X11_sets hts tw_975 rfl rfl ⟨Nat.le_of_ble_eq_true rfl, Nat.le_of_ble_eq_true rfl⟩) (by decide) o1_18 rfl rfl hl.1 rfl (by first | exact Nat.le_of_ble_eq_true rfl | decide) dX11_test_110 ⟨Nat.zero_le _, Nat.zero_le _⟩) hw hS (fun w19 H locs hp110 hw hS => ?_)
                have o1_19 : w19 32 = .inr (9, [.ref (gad G 33), .ref (gad G 34), .ref (gad G 35), .int (nI n), .int (nI n1), .int z, .int hd, .int sd, .ref (gad G 36), .ref (gad G 37), .int (nI rn), .ref (gad G 38), .int (nI tn), .int fr, .int tto, .int tk, .int wo, .ref (gad G 39), .ref (gad G 40), .ref (gad G 41), .ref (gad G 42), .ref (gad G 43), .ref (gad G 44), .int (nI n2), .int (nI qn), .int iz, .int (bi im)]) := by rw [hp110]; exact (vu_e (by decide) o1_18)
                have a1_19 : w19 33 = .inl (gI G, 132, .inl (upd (upd (upd f (a * 11 + 0) (h)) (a * 11 + 1) (t)) (a * 11 + 2) (lo))) := by rw [hp110]; exact vu_s
                refine lv_aload_n hx hb dX11_test_113 rfl (lv_at hl 2 rfl) ?_
                refine lv_iload_n hx hb dX11_test_114 rfl (lv_at hl 3 rfl) ?_
                refine lv_iconst (v := 3) hx hb dX11_test_115 (by decide) ?_
                refine lv_iload hx hb dX11_test_116 (lv_at hl 7 rfl) ?_
                refine cQv (rV (As := [_, _, _]) ⟨hx, hb, hml, hown, hts⟩ hw (k_X11_sets l o1_19 a1_19 hn (ixm a 3) (by omega)) (cv_X11_sets hts tw_975 rfl rfl ⟨Nat.le_of_ble_eq_true rfl, Nat.le_of_ble_eq_true rfl⟩) (by decide) o1_19 rfl rfl hl.1 rfl (by first | exact Nat.le_of_ble_eq_true rfl | decide) dX11_test_118 ⟨Nat.zero_le _, Nat.zero_le _⟩) hw hS (fun w20 H locs hp118 hw hS => ?_)
                have o1_20 : w20 32 = .inr (9, [.ref (gad G 33), .ref (gad G 34), .ref (gad G 35), .int (nI n), .int (nI n1), .int z, .int hd, .int sd, .ref (gad G 36), .ref (gad G 37), .int (nI rn), .ref (gad G 38), .int (nI tn), .int fr, .int tto, .int tk, .int wo, .ref (gad G 39), .ref (gad G 40), .ref (gad G 41), .ref (gad G 42), .ref (gad G 43), .ref (gad G 44), .int (nI n2), .int (nI qn), .int iz, .int (bi im)]) := by rw [hp118]; exact (vu_e (by decide) o1_19)
                have a1_20 : w20 33 = .inl (gI G, 132, .inl (upd (upd (upd (upd f (a * 11 + 0) (h)) (a * 11 + 1) (t)) (a * 11 + 2) (lo)) (a * 11 + 3) (hi))) := by rw [hp118]; exact vu_s
                refine lv_iload hx hb dX11_test_121 (lv_at hl 0 rfl) ?_
                exact re_Q hx hb hr hlocks (rfl) hw hS dX11_test_123 (Or.inr ⟨a, ha, rfl, by simp [tOK, hnd, if_pos c2, c19, c28, c55, c66, c77], rfl, by rw [hp118, hp110, hp102, hp95, up_up, up_up, up_up]; rfl⟩)
              · refine lv_bipush (v := (-2)) hx hb dX11_test_80 (by decide) ?_
                exact re_Q hx hb hr hlocks (rfl) hw hS dX11_test_82 (Or.inl ⟨by simp [tOK, if_pos c2, c19, c28, c55, c66, c77, hnd], rfl, rfl⟩)
        · refine lv_iload_n hx hb dX11_test_36 rfl (lv_at hl 3 rfl) ?_
          refine lv_iconst (v := 2) hx hb dX11_test_37 (by decide) ?_
          refine lv_icmp_eq (tgt := 46) hx hb dX11_test_38 (by decide) (fun c38 => ?_) (fun c38 => ?_)
          · skip
            refine lv_iconst (v := 1) hx hb dX11_test_46 (by decide) ?_
            refine lv_goto (tgt := 51) hx hb dX11_test_47 (by decide) ?_
            have hnd : ndT h = true := by simp [ndT, c33, c38]
            refine lv_iload_n hx hb dX11_test_51 rfl (lv_at hl 4 rfl) ?_
            refine cSe (rST (As := [_, _]) ⟨hx, hb, hml, hown, hts⟩ (k_X11_isTrait_t l ) (cv_X11_isTrait hts tw_990 rfl rfl ⟨Nat.le_of_ble_eq_true rfl, Nat.le_of_ble_eq_true rfl⟩) rfl hl.1 rfl (by first | exact Nat.le_of_ble_eq_true rfl | decide) dX11_test_52 ⟨Nat.zero_le _, Nat.zero_le _⟩) ?_
            refine zb_eq (tgt := 80) hx hb dX11_test_55 (by decide) (fun c55 => ?_) (fun c55 => ?_)
            · refine lv_bipush (v := (-2)) hx hb dX11_test_80 (by decide) ?_
              exact re_Q hx hb hr hlocks (rfl) hw hS dX11_test_82 (Or.inl ⟨by simp [tOK, if_pos c2, c19, c28, c55, hnd], rfl, rfl⟩)
            · refine lv_iload hx hb dX11_test_58 (lv_at hl 5 rfl) ?_
              refine lv_iconst (v := 0) hx hb dX11_test_60 (by decide) ?_
              refine lv_iload hx hb dX11_test_61 (lv_at hl 0 rfl) ?_
              refine cSe (rST (As := [_, _, _]) ⟨hx, hb, hml, hown, hts⟩ (k_X11_in l ) (cv_X11_in hts tw_987 rfl rfl ⟨Nat.le_of_ble_eq_true rfl, Nat.le_of_ble_eq_true rfl⟩) rfl hl.1 rfl (by first | exact Nat.le_of_ble_eq_true rfl | decide) dX11_test_63 ⟨Nat.zero_le _, Nat.zero_le _⟩) ?_
              refine zb_eq (tgt := 80) hx hb dX11_test_66 (by decide) (fun c66 => ?_) (fun c66 => ?_)
              · refine lv_bipush (v := (-2)) hx hb dX11_test_80 (by decide) ?_
                exact re_Q hx hb hr hlocks (rfl) hw hS dX11_test_82 (Or.inl ⟨by simp [tOK, if_pos c2, c19, c28, c55, c66, hnd], rfl, rfl⟩)
              · refine lv_iload hx hb dX11_test_69 (lv_at hl 6 rfl) ?_
                refine lv_iconst (v := 0) hx hb dX11_test_71 (by decide) ?_
                refine lv_iload hx hb dX11_test_72 (lv_at hl 0 rfl) ?_
                refine cSe (rST (As := [_, _, _]) ⟨hx, hb, hml, hown, hts⟩ (k_X11_in l ) (cv_X11_in hts tw_987 rfl rfl ⟨Nat.le_of_ble_eq_true rfl, Nat.le_of_ble_eq_true rfl⟩) rfl hl.1 rfl (by first | exact Nat.le_of_ble_eq_true rfl | decide) dX11_test_74 ⟨Nat.zero_le _, Nat.zero_le _⟩) ?_
                refine zb_ne (tgt := 83) hx hb dX11_test_77 (by decide) (fun c77 => ?_) (fun c77 => ?_)
                · obtain ⟨a, ha, rfl⟩ := hasN_t hn c19
                  refine lv_aload_n hx hb dX11_test_83 rfl (lv_at hl 1 rfl) ?_
                  refine lv_iload_n hx hb dX11_test_84 rfl (lv_at hl 2 rfl) ?_
                  refine lv_iconst (v := 0) hx hb dX11_test_85 (by decide) ?_
                  refine cSe (rV (As := [_, _]) ⟨hx, hb, hml, hown, hts⟩ hw (k_X11_is l o1 a1 hn (ixm a 0) (by omega)) (cv_X11_is hts tw_993 rfl rfl ⟨Nat.le_of_ble_eq_true rfl, Nat.le_of_ble_eq_true rfl⟩) (by decide) o1 rfl rfl hl.1 rfl (by first | exact Nat.le_of_ble_eq_true rfl | decide) dX11_test_86 ⟨Nat.zero_le _, Nat.zero_le _⟩) ?_
                  refine lv_istore (lv' := [(7, _), (6, _), (0, _), (1, _), (2, _), (3, _), (4, _), (5, _)]) hx hb dX11_test_89 hl (by decide) rfl (fun ls hl => ?_)
                  refine lv_aload_n hx hb dX11_test_91 rfl (lv_at hl 2 rfl) ?_
                  refine lv_iload_n hx hb dX11_test_92 rfl (lv_at hl 3 rfl) ?_
                  refine lv_iconst (v := 0) hx hb dX11_test_93 (by decide) ?_
                  refine lv_iload_n hx hb dX11_test_94 rfl (lv_at hl 4 rfl) ?_
                  refine cQv (rV (As := [_, _, _]) ⟨hx, hb, hml, hown, hts⟩ hw (k_X11_sets l o1 a1 hn (ixm a 0) (by omega)) (cv_X11_sets hts tw_975 rfl rfl ⟨Nat.le_of_ble_eq_true rfl, Nat.le_of_ble_eq_true rfl⟩) (by decide) o1 rfl rfl hl.1 rfl (by first | exact Nat.le_of_ble_eq_true rfl | decide) dX11_test_95 ⟨Nat.zero_le _, Nat.zero_le _⟩) hw hS (fun w21 H locs hp95 hw hS => ?_)
                  have o1_21 : w21 32 = .inr (9, [.ref (gad G 33), .ref (gad G 34), .ref (gad G 35), .int (nI n), .int (nI n1), .int z, .int hd, .int sd, .ref (gad G 36), .ref (gad G 37), .int (nI rn), .ref (gad G 38), .int (nI tn), .int fr, .int tto, .int tk, .int wo, .ref (gad G 39), .ref (gad G 40), .ref (gad G 41), .ref (gad G 42), .ref (gad G 43), .ref (gad G 44), .int (nI n2), .int (nI qn), .int iz, .int (bi im)]) := by rw [hp95]; exact (vu_e (by decide) o1)
                  have a1_21 : w21 33 = .inl (gI G, 132, .inl (upd f (a * 11 + 0) (h))) := by rw [hp95]; exact vu_s
                  refine lv_aload_n hx hb dX11_test_98 rfl (lv_at hl 2 rfl) ?_
                  refine lv_iload_n hx hb dX11_test_99 rfl (lv_at hl 3 rfl) ?_
                  refine lv_iconst (v := 1) hx hb dX11_test_100 (by decide) ?_
                  refine lv_iload_n hx hb dX11_test_101 rfl (lv_at hl 5 rfl) ?_
                  refine cQv (rV (As := [_, _, _]) ⟨hx, hb, hml, hown, hts⟩ hw (k_X11_sets l o1_21 a1_21 hn (ixm a 1) (by omega)) (cv_X11_sets hts tw_975 rfl rfl ⟨Nat.le_of_ble_eq_true rfl, Nat.le_of_ble_eq_true rfl⟩) (by decide) o1_21 rfl rfl hl.1 rfl (by first | exact Nat.le_of_ble_eq_true rfl | decide) dX11_test_102 ⟨Nat.zero_le _, Nat.zero_le _⟩) hw hS (fun w22 H locs hp102 hw hS => ?_)
                  have o1_22 : w22 32 = .inr (9, [.ref (gad G 33), .ref (gad G 34), .ref (gad G 35), .int (nI n), .int (nI n1), .int z, .int hd, .int sd, .ref (gad G 36), .ref (gad G 37), .int (nI rn), .ref (gad G 38), .int (nI tn), .int fr, .int tto, .int tk, .int wo, .ref (gad G 39), .ref (gad G 40), .ref (gad G 41), .ref (gad G 42), .ref (gad G 43), .ref (gad G 44), .int (nI n2), .int (nI qn), .int iz, .int (bi im)]) := by rw [hp102]; exact (vu_e (by decide) o1_21)
                  have a1_22 : w22 33 = .inl (gI G, 132, .inl (upd (upd f (a * 11 + 0) (h)) (a * 11 + 1) (t))) := by rw [hp102]; exact vu_s
                  refine lv_aload_n hx hb dX11_test_105 rfl (lv_at hl 2 rfl) ?_
                  refine lv_iload_n hx hb dX11_test_106 rfl (lv_at hl 3 rfl) ?_
                  refine lv_iconst (v := 2) hx hb dX11_test_107 (by decide) ?_
                  refine lv_iload hx hb dX11_test_108 (lv_at hl 6 rfl) ?_
                  refine cQv (rV (As := [_, _, _]) ⟨hx, hb, hml, hown, hts⟩ hw (k_X11_sets l o1_22 a1_22 hn (ixm a 2) (by omega)) (cv_X11_sets hts tw_975 rfl rfl ⟨Nat.le_of_ble_eq_true rfl, Nat.le_of_ble_eq_true rfl⟩) (by decide) o1_22 rfl rfl hl.1 rfl (by first | exact Nat.le_of_ble_eq_true rfl | decide) dX11_test_110 ⟨Nat.zero_le _, Nat.zero_le _⟩) hw hS (fun w23 H locs hp110 hw hS => ?_)
                  have o1_23 : w23 32 = .inr (9, [.ref (gad G 33), .ref (gad G 34), .ref (gad G 35), .int (nI n), .int (nI n1), .int z, .int hd, .int sd, .ref (gad G 36), .ref (gad G 37), .int (nI rn), .ref (gad G 38), .int (nI tn), .int fr, .int tto, .int tk, .int wo, .ref (gad G 39), .ref (gad G 40), .ref (gad G 41), .ref (gad G 42), .ref (gad G 43), .ref (gad G 44), .int (nI n2), .int (nI qn), .int iz, .int (bi im)]) := by rw [hp110]; exact (vu_e (by decide) o1_22)
                  have a1_23 : w23 33 = .inl (gI G, 132, .inl (upd (upd (upd f (a * 11 + 0) (h)) (a * 11 + 1) (t)) (a * 11 + 2) (lo))) := by rw [hp110]; exact vu_s
                  refine lv_aload_n hx hb dX11_test_113 rfl (lv_at hl 2 rfl) ?_
                  refine lv_iload_n hx hb dX11_test_114 rfl (lv_at hl 3 rfl) ?_
                  refine lv_iconst (v := 3) hx hb dX11_test_115 (by decide) ?_
                  refine lv_iload hx hb dX11_test_116 (lv_at hl 7 rfl) ?_
                  refine cQv (rV (As := [_, _, _]) ⟨hx, hb, hml, hown, hts⟩ hw (k_X11_sets l o1_23 a1_23 hn (ixm a 3) (by omega)) (cv_X11_sets hts tw_975 rfl rfl ⟨Nat.le_of_ble_eq_true rfl, Nat.le_of_ble_eq_true rfl⟩) (by decide) o1_23 rfl rfl hl.1 rfl (by first | exact Nat.le_of_ble_eq_true rfl | decide) dX11_test_118 ⟨Nat.zero_le _, Nat.zero_le _⟩) hw hS (fun w24 H locs hp118 hw hS => ?_)
                  have o1_24 : w24 32 = .inr (9, [.ref (gad G 33), .ref (gad G 34), .ref (gad G 35), .int (nI n), .int (nI n1), .int z, .int hd, .int sd, .ref (gad G 36), .ref (gad G 37), .int (nI rn), .ref (gad G 38), .int (nI tn), .int fr, .int tto, .int tk, .int wo, .ref (gad G 39), .ref (gad G 40), .ref (gad G 41), .ref (gad G 42), .ref (gad G 43), .ref (gad G 44), .int (nI n2), .int (nI qn), .int iz, .int (bi im)]) := by rw [hp118]; exact (vu_e (by decide) o1_23)
                  have a1_24 : w24 33 = .inl (gI G, 132, .inl (upd (upd (upd (upd f (a * 11 + 0) (h)) (a * 11 + 1) (t)) (a * 11 + 2) (lo)) (a * 11 + 3) (hi))) := by rw [hp118]; exact vu_s
                  refine lv_iload hx hb dX11_test_121 (lv_at hl 0 rfl) ?_
                  exact re_Q hx hb hr hlocks (rfl) hw hS dX11_test_123 (Or.inr ⟨a, ha, rfl, by simp [tOK, hnd, if_pos c2, c19, c28, c55, c66, c77], rfl, by rw [hp118, hp110, hp102, hp95, up_up, up_up, up_up]; rfl⟩)
                · refine lv_bipush (v := (-2)) hx hb dX11_test_80 (by decide) ?_
                  exact re_Q hx hb hr hlocks (rfl) hw hS dX11_test_82 (Or.inl ⟨by simp [tOK, if_pos c2, c19, c28, c55, c66, c77, hnd], rfl, rfl⟩)
          · refine lv_iload_n hx hb dX11_test_41 rfl (lv_at hl 3 rfl) ?_
            refine lv_iconst (v := 4) hx hb dX11_test_42 (by decide) ?_
            refine lv_icmp_ne (tgt := 50) hx hb dX11_test_43 (by decide) (fun c43 => ?_) (fun c43 => ?_)
            · refine lv_iconst (v := 0) hx hb dX11_test_50 (by decide) ?_
              have hnd : ndT h = false := by simp [ndT, c33, c38, c43]
              refine lv_iload_n hx hb dX11_test_51 rfl (lv_at hl 4 rfl) ?_
              refine cSe (rST (As := [_, _]) ⟨hx, hb, hml, hown, hts⟩ (k_X11_isTrait_f l ) (cv_X11_isTrait hts tw_990 rfl rfl ⟨Nat.le_of_ble_eq_true rfl, Nat.le_of_ble_eq_true rfl⟩) rfl hl.1 rfl (by first | exact Nat.le_of_ble_eq_true rfl | decide) dX11_test_52 ⟨Nat.zero_le _, Nat.zero_le _⟩) ?_
              refine zb_eq (tgt := 80) hx hb dX11_test_55 (by decide) (fun c55 => ?_) (fun c55 => ?_)
              · refine lv_bipush (v := (-2)) hx hb dX11_test_80 (by decide) ?_
                exact re_Q hx hb hr hlocks (rfl) hw hS dX11_test_82 (Or.inl ⟨by simp [tOK, if_pos c2, c19, c28, c55, hnd], rfl, rfl⟩)
              · refine lv_iload hx hb dX11_test_58 (lv_at hl 5 rfl) ?_
                refine lv_iconst (v := 0) hx hb dX11_test_60 (by decide) ?_
                refine lv_iload hx hb dX11_test_61 (lv_at hl 0 rfl) ?_
                refine cSe (rST (As := [_, _, _]) ⟨hx, hb, hml, hown, hts⟩ (k_X11_in l ) (cv_X11_in hts tw_987 rfl rfl ⟨Nat.le_of_ble_eq_true rfl, Nat.le_of_ble_eq_true rfl⟩) rfl hl.1 rfl (by first | exact Nat.le_of_ble_eq_true rfl | decide) dX11_test_63 ⟨Nat.zero_le _, Nat.zero_le _⟩) ?_
                refine zb_eq (tgt := 80) hx hb dX11_test_66 (by decide) (fun c66 => ?_) (fun c66 => ?_)
                · refine lv_bipush (v := (-2)) hx hb dX11_test_80 (by decide) ?_
                  exact re_Q hx hb hr hlocks (rfl) hw hS dX11_test_82 (Or.inl ⟨by simp [tOK, if_pos c2, c19, c28, c55, c66, hnd], rfl, rfl⟩)
                · refine lv_iload hx hb dX11_test_69 (lv_at hl 6 rfl) ?_
                  refine lv_iconst (v := 0) hx hb dX11_test_71 (by decide) ?_
                  refine lv_iload hx hb dX11_test_72 (lv_at hl 0 rfl) ?_
                  refine cSe (rST (As := [_, _, _]) ⟨hx, hb, hml, hown, hts⟩ (k_X11_in l ) (cv_X11_in hts tw_987 rfl rfl ⟨Nat.le_of_ble_eq_true rfl, Nat.le_of_ble_eq_true rfl⟩) rfl hl.1 rfl (by first | exact Nat.le_of_ble_eq_true rfl | decide) dX11_test_74 ⟨Nat.zero_le _, Nat.zero_le _⟩) ?_
                  refine zb_ne (tgt := 83) hx hb dX11_test_77 (by decide) (fun c77 => ?_) (fun c77 => ?_)
                  · obtain ⟨a, ha, rfl⟩ := hasN_t hn c19
                    refine lv_aload_n hx hb dX11_test_83 rfl (lv_at hl 1 rfl) ?_
                    refine lv_iload_n hx hb dX11_test_84 rfl (lv_at hl 2 rfl) ?_
                    refine lv_iconst (v := 0) hx hb dX11_test_85 (by decide) ?_
                    refine cSe (rV (As := [_, _]) ⟨hx, hb, hml, hown, hts⟩ hw (k_X11_is l o1 a1 hn (ixm a 0) (by omega)) (cv_X11_is hts tw_993 rfl rfl ⟨Nat.le_of_ble_eq_true rfl, Nat.le_of_ble_eq_true rfl⟩) (by decide) o1 rfl rfl hl.1 rfl (by first | exact Nat.le_of_ble_eq_true rfl | decide) dX11_test_86 ⟨Nat.zero_le _, Nat.zero_le _⟩) ?_
                    refine lv_istore (lv' := [(7, _), (6, _), (0, _), (1, _), (2, _), (3, _), (4, _), (5, _)]) hx hb dX11_test_89 hl (by decide) rfl (fun ls hl => ?_)
                    refine lv_aload_n hx hb dX11_test_91 rfl (lv_at hl 2 rfl) ?_
                    refine lv_iload_n hx hb dX11_test_92 rfl (lv_at hl 3 rfl) ?_
                    refine lv_iconst (v := 0) hx hb dX11_test_93 (by decide) ?_
                    refine lv_iload_n hx hb dX11_test_94 rfl (lv_at hl 4 rfl) ?_
                    refine cQv (rV (As := [_, _, _]) ⟨hx, hb, hml, hown, hts⟩ hw (k_X11_sets l o1 a1 hn (ixm a 0) (by omega)) (cv_X11_sets hts tw_975 rfl rfl ⟨Nat.le_of_ble_eq_true rfl, Nat.le_of_ble_eq_true rfl⟩) (by decide) o1 rfl rfl hl.1 rfl (by first | exact Nat.le_of_ble_eq_true rfl | decide) dX11_test_95 ⟨Nat.zero_le _, Nat.zero_le _⟩) hw hS (fun w25 H locs hp95 hw hS => ?_)
                    have o1_25 : w25 32 = .inr (9, [.ref (gad G 33), .ref (gad G 34), .ref (gad G 35), .int (nI n), .int (nI n1), .int z, .int hd, .int sd, .ref (gad G 36), .ref (gad G 37), .int (nI rn), .ref (gad G 38), .int (nI tn), .int fr, .int tto, .int tk, .int wo, .ref (gad G 39), .ref (gad G 40), .ref (gad G 41), .ref (gad G 42), .ref (gad G 43), .ref (gad G 44), .int (nI n2), .int (nI qn), .int iz, .int (bi im)]) := by rw [hp95]; exact (vu_e (by decide) o1)
                    have a1_25 : w25 33 = .inl (gI G, 132, .inl (upd f (a * 11 + 0) (h))) := by rw [hp95]; exact vu_s
                    refine lv_aload_n hx hb dX11_test_98 rfl (lv_at hl 2 rfl) ?_
                    refine lv_iload_n hx hb dX11_test_99 rfl (lv_at hl 3 rfl) ?_
                    refine lv_iconst (v := 1) hx hb dX11_test_100 (by decide) ?_
                    refine lv_iload_n hx hb dX11_test_101 rfl (lv_at hl 5 rfl) ?_
                    refine cQv (rV (As := [_, _, _]) ⟨hx, hb, hml, hown, hts⟩ hw (k_X11_sets l o1_25 a1_25 hn (ixm a 1) (by omega)) (cv_X11_sets hts tw_975 rfl rfl ⟨Nat.le_of_ble_eq_true rfl, Nat.le_of_ble_eq_true rfl⟩) (by decide) o1_25 rfl rfl hl.1 rfl (by first | exact Nat.le_of_ble_eq_true rfl | decide) dX11_test_102 ⟨Nat.zero_le _, Nat.zero_le _⟩) hw hS (fun w26 H locs hp102 hw hS => ?_)
                    have o1_26 : w26 32 = .inr (9, [.ref (gad G 33), .ref (gad G 34), .ref (gad G 35), .int (nI n), .int (nI n1), .int z, .int hd, .int sd, .ref (gad G 36), .ref (gad G 37), .int (nI rn), .ref (gad G 38), .int (nI tn), .int fr, .int tto, .int tk, .int wo, .ref (gad G 39), .ref (gad G 40), .ref (gad G 41), .ref (gad G 42), .ref (gad G 43), .ref (gad G 44), .int (nI n2), .int (nI qn), .int iz, .int (bi im)]) := by rw [hp102]; exact (vu_e (by decide) o1_25)
                    have a1_26 : w26 33 = .inl (gI G, 132, .inl (upd (upd f (a * 11 + 0) (h)) (a * 11 + 1) (t))) := by rw [hp102]; exact vu_s
                    refine lv_aload_n hx hb dX11_test_105 rfl (lv_at hl 2 rfl) ?_
                    refine lv_iload_n hx hb dX11_test_106 rfl (lv_at hl 3 rfl) ?_
                    refine lv_iconst (v := 2) hx hb dX11_test_107 (by decide) ?_
                    refine lv_iload hx hb dX11_test_108 (lv_at hl 6 rfl) ?_
                    refine cQv (rV (As := [_, _, _]) ⟨hx, hb, hml, hown, hts⟩ hw (k_X11_sets l o1_26 a1_26 hn (ixm a 2) (by omega)) (cv_X11_sets hts tw_975 rfl rfl ⟨Nat.le_of_ble_eq_true rfl, Nat.le_of_ble_eq_true rfl⟩) (by decide) o1_26 rfl rfl hl.1 rfl (by first | exact Nat.le_of_ble_eq_true rfl | decide) dX11_test_110 ⟨Nat.zero_le _, Nat.zero_le _⟩) hw hS (fun w27 H locs hp110 hw hS => ?_)
                    have o1_27 : w27 32 = .inr (9, [.ref (gad G 33), .ref (gad G 34), .ref (gad G 35), .int (nI n), .int (nI n1), .int z, .int hd, .int sd, .ref (gad G 36), .ref (gad G 37), .int (nI rn), .ref (gad G 38), .int (nI tn), .int fr, .int tto, .int tk, .int wo, .ref (gad G 39), .ref (gad G 40), .ref (gad G 41), .ref (gad G 42), .ref (gad G 43), .ref (gad G 44), .int (nI n2), .int (nI qn), .int iz, .int (bi im)]) := by rw [hp110]; exact (vu_e (by decide) o1_26)
                    have a1_27 : w27 33 = .inl (gI G, 132, .inl (upd (upd (upd f (a * 11 + 0) (h)) (a * 11 + 1) (t)) (a * 11 + 2) (lo))) := by rw [hp110]; exact vu_s
                    refine lv_aload_n hx hb dX11_test_113 rfl (lv_at hl 2 rfl) ?_
                    refine lv_iload_n hx hb dX11_test_114 rfl (lv_at hl 3 rfl) ?_
                    refine lv_iconst (v := 3) hx hb dX11_test_115 (by decide) ?_
                    refine lv_iload hx hb dX11_test_116 (lv_at hl 7 rfl) ?_
                    refine cQv (rV (As := [_, _, _]) ⟨hx, hb, hml, hown, hts⟩ hw (k_X11_sets l o1_27 a1_27 hn (ixm a 3) (by omega)) (cv_X11_sets hts tw_975 rfl rfl ⟨Nat.le_of_ble_eq_true rfl, Nat.le_of_ble_eq_true rfl⟩) (by decide) o1_27 rfl rfl hl.1 rfl (by first | exact Nat.le_of_ble_eq_true rfl | decide) dX11_test_118 ⟨Nat.zero_le _, Nat.zero_le _⟩) hw hS (fun w28 H locs hp118 hw hS => ?_)
                    have o1_28 : w28 32 = .inr (9, [.ref (gad G 33), .ref (gad G 34), .ref (gad G 35), .int (nI n), .int (nI n1), .int z, .int hd, .int sd, .ref (gad G 36), .ref (gad G 37), .int (nI rn), .ref (gad G 38), .int (nI tn), .int fr, .int tto, .int tk, .int wo, .ref (gad G 39), .ref (gad G 40), .ref (gad G 41), .ref (gad G 42), .ref (gad G 43), .ref (gad G 44), .int (nI n2), .int (nI qn), .int iz, .int (bi im)]) := by rw [hp118]; exact (vu_e (by decide) o1_27)
                    have a1_28 : w28 33 = .inl (gI G, 132, .inl (upd (upd (upd (upd f (a * 11 + 0) (h)) (a * 11 + 1) (t)) (a * 11 + 2) (lo)) (a * 11 + 3) (hi))) := by rw [hp118]; exact vu_s
                    refine lv_iload hx hb dX11_test_121 (lv_at hl 0 rfl) ?_
                    exact re_Q hx hb hr hlocks (rfl) hw hS dX11_test_123 (Or.inr ⟨a, ha, rfl, by simp [tOK, hnd, if_pos c2, c19, c28, c55, c66, c77], rfl, by rw [hp118, hp110, hp102, hp95, up_up, up_up, up_up]; rfl⟩)
                  · refine lv_bipush (v := (-2)) hx hb dX11_test_80 (by decide) ?_
                    exact re_Q hx hb hr hlocks (rfl) hw hS dX11_test_82 (Or.inl ⟨by simp [tOK, if_pos c2, c19, c28, c55, c66, c77, hnd], rfl, rfl⟩)
            · skip
              refine lv_iconst (v := 1) hx hb dX11_test_46 (by decide) ?_
              refine lv_goto (tgt := 51) hx hb dX11_test_47 (by decide) ?_
              have hnd : ndT h = true := by simp [ndT, c33, c38, c43]
              refine lv_iload_n hx hb dX11_test_51 rfl (lv_at hl 4 rfl) ?_
              refine cSe (rST (As := [_, _]) ⟨hx, hb, hml, hown, hts⟩ (k_X11_isTrait_t l ) (cv_X11_isTrait hts tw_990 rfl rfl ⟨Nat.le_of_ble_eq_true rfl, Nat.le_of_ble_eq_true rfl⟩) rfl hl.1 rfl (by first | exact Nat.le_of_ble_eq_true rfl | decide) dX11_test_52 ⟨Nat.zero_le _, Nat.zero_le _⟩) ?_
              refine zb_eq (tgt := 80) hx hb dX11_test_55 (by decide) (fun c55 => ?_) (fun c55 => ?_)
              · refine lv_bipush (v := (-2)) hx hb dX11_test_80 (by decide) ?_
                exact re_Q hx hb hr hlocks (rfl) hw hS dX11_test_82 (Or.inl ⟨by simp [tOK, if_pos c2, c19, c28, c55, hnd], rfl, rfl⟩)
              · refine lv_iload hx hb dX11_test_58 (lv_at hl 5 rfl) ?_
                refine lv_iconst (v := 0) hx hb dX11_test_60 (by decide) ?_
                refine lv_iload hx hb dX11_test_61 (lv_at hl 0 rfl) ?_
                refine cSe (rST (As := [_, _, _]) ⟨hx, hb, hml, hown, hts⟩ (k_X11_in l ) (cv_X11_in hts tw_987 rfl rfl ⟨Nat.le_of_ble_eq_true rfl, Nat.le_of_ble_eq_true rfl⟩) rfl hl.1 rfl (by first | exact Nat.le_of_ble_eq_true rfl | decide) dX11_test_63 ⟨Nat.zero_le _, Nat.zero_le _⟩) ?_
                refine zb_eq (tgt := 80) hx hb dX11_test_66 (by decide) (fun c66 => ?_) (fun c66 => ?_)
                · refine lv_bipush (v := (-2)) hx hb dX11_test_80 (by decide) ?_
                  exact re_Q hx hb hr hlocks (rfl) hw hS dX11_test_82 (Or.inl ⟨by simp [tOK, if_pos c2, c19, c28, c55, c66, hnd], rfl, rfl⟩)
                · refine lv_iload hx hb dX11_test_69 (lv_at hl 6 rfl) ?_
                  refine lv_iconst (v := 0) hx hb dX11_test_71 (by decide) ?_
                  refine lv_iload hx hb dX11_test_72 (lv_at hl 0 rfl) ?_
                  refine cSe (rST (As := [_, _, _]) ⟨hx, hb, hml, hown, hts⟩ (k_X11_in l ) (cv_X11_in hts tw_987 rfl rfl ⟨Nat.le_of_ble_eq_true rfl, Nat.le_of_ble_eq_true rfl⟩) rfl hl.1 rfl (by first | exact Nat.le_of_ble_eq_true rfl | decide) dX11_test_74 ⟨Nat.zero_le _, Nat.zero_le _⟩) ?_
                  refine zb_ne (tgt := 83) hx hb dX11_test_77 (by decide) (fun c77 => ?_) (fun c77 => ?_)
                  · obtain ⟨a, ha, rfl⟩ := hasN_t hn c19
                    refine lv_aload_n hx hb dX11_test_83 rfl (lv_at hl 1 rfl) ?_
                    refine lv_iload_n hx hb dX11_test_84 rfl (lv_at hl 2 rfl) ?_
                    refine lv_iconst (v := 0) hx hb dX11_test_85 (by decide) ?_
                    refine cSe (rV (As := [_, _]) ⟨hx, hb, hml, hown, hts⟩ hw (k_X11_is l o1 a1 hn (ixm a 0) (by omega)) (cv_X11_is hts tw_993 rfl rfl ⟨Nat.le_of_ble_eq_true rfl, Nat.le_of_ble_eq_true rfl⟩) (by decide) o1 rfl rfl hl.1 rfl (by first | exact Nat.le_of_ble_eq_true rfl | decide) dX11_test_86 ⟨Nat.zero_le _, Nat.zero_le _⟩) ?_
                    refine lv_istore (lv' := [(7, _), (6, _), (0, _), (1, _), (2, _), (3, _), (4, _), (5, _)]) hx hb dX11_test_89 hl (by decide) rfl (fun ls hl => ?_)
                    refine lv_aload_n hx hb dX11_test_91 rfl (lv_at hl 2 rfl) ?_
                    refine lv_iload_n hx hb dX11_test_92 rfl (lv_at hl 3 rfl) ?_
                    refine lv_iconst (v := 0) hx hb dX11_test_93 (by decide) ?_
                    refine lv_iload_n hx hb dX11_test_94 rfl (lv_at hl 4 rfl) ?_
                    refine cQv (rV (As := [_, _, _]) ⟨hx, hb, hml, hown, hts⟩ hw (k_X11_sets l o1 a1 hn (ixm a 0) (by omega)) (cv_X11_sets hts tw_975 rfl rfl ⟨Nat.le_of_ble_eq_true rfl, Nat.le_of_ble_eq_true rfl⟩) (by decide) o1 rfl rfl hl.1 rfl (by first | exact Nat.le_of_ble_eq_true rfl | decide) dX11_test_95 ⟨Nat.zero_le _, Nat.zero_le _⟩) hw hS (fun w29 H locs hp95 hw hS => ?_)
                    have o1_29 : w29 32 = .inr (9, [.ref (gad G 33), .ref (gad G 34), .ref (gad G 35), .int (nI n), .int (nI n1), .int z, .int hd, .int sd, .ref (gad G 36), .ref (gad G 37), .int (nI rn), .ref (gad G 38), .int (nI tn), .int fr, .int tto, .int tk, .int wo, .ref (gad G 39), .ref (gad G 40), .ref (gad G 41), .ref (gad G 42), .ref (gad G 43), .ref (gad G 44), .int (nI n2), .int (nI qn), .int iz, .int (bi im)]) := by rw [hp95]; exact (vu_e (by decide) o1)
                    have a1_29 : w29 33 = .inl (gI G, 132, .inl (upd f (a * 11 + 0) (h))) := by rw [hp95]; exact vu_s
                    refine lv_aload_n hx hb dX11_test_98 rfl (lv_at hl 2 rfl) ?_
                    refine lv_iload_n hx hb dX11_test_99 rfl (lv_at hl 3 rfl) ?_
                    refine lv_iconst (v := 1) hx hb dX11_test_100 (by decide) ?_
                    refine lv_iload_n hx hb dX11_test_101 rfl (lv_at hl 5 rfl) ?_
                    refine cQv (rV (As := [_, _, _]) ⟨hx, hb, hml, hown, hts⟩ hw (k_X11_sets l o1_29 a1_29 hn (ixm a 1) (by omega)) (cv_X11_sets hts tw_975 rfl rfl ⟨Nat.le_of_ble_eq_true rfl, Nat.le_of_ble_eq_true rfl⟩) (by decide) o1_29 rfl rfl hl.1 rfl (by first | exact Nat.le_of_ble_eq_true rfl | decide) dX11_test_102 ⟨Nat.zero_le _, Nat.zero_le _⟩) hw hS (fun w30 H locs hp102 hw hS => ?_)
                    have o1_30 : w30 32 = .inr (9, [.ref (gad G 33), .ref (gad G 34), .ref (gad G 35), .int (nI n), .int (nI n1), .int z, .int hd, .int sd, .ref (gad G 36), .ref (gad G 37), .int (nI rn), .ref (gad G 38), .int (nI tn), .int fr, .int tto, .int tk, .int wo, .ref (gad G 39), .ref (gad G 40), .ref (gad G 41), .ref (gad G 42), .ref (gad G 43), .ref (gad G 44), .int (nI n2), .int (nI qn), .int iz, .int (bi im)]) := by rw [hp102]; exact (vu_e (by decide) o1_29)
                    have a1_30 : w30 33 = .inl (gI G, 132, .inl (upd (upd f (a * 11 + 0) (h)) (a * 11 + 1) (t))) := by rw [hp102]; exact vu_s
                    refine lv_aload_n hx hb dX11_test_105 rfl (lv_at hl 2 rfl) ?_
                    refine lv_iload_n hx hb dX11_test_106 rfl (lv_at hl 3 rfl) ?_
                    refine lv_iconst (v := 2) hx hb dX11_test_107 (by decide) ?_
                    refine lv_iload hx hb dX11_test_108 (lv_at hl 6 rfl) ?_
                    refine cQv (rV (As := [_, _, _]) ⟨hx, hb, hml, hown, hts⟩ hw (k_X11_sets l o1_30 a1_30 hn (ixm a 2) (by omega)) (cv_X11_sets hts tw_975 rfl rfl ⟨Nat.le_of_ble_eq_true rfl, Nat.le_of_ble_eq_true rfl⟩) (by decide) o1_30 rfl rfl hl.1 rfl (by first | exact Nat.le_of_ble_eq_true rfl | decide) dX11_test_110 ⟨Nat.zero_le _, Nat.zero_le _⟩) hw hS (fun w31 H locs hp110 hw hS => ?_)
                    have o1_31 : w31 32 = .inr (9, [.ref (gad G 33), .ref (gad G 34), .ref (gad G 35), .int (nI n), .int (nI n1), .int z, .int hd, .int sd, .ref (gad G 36), .ref (gad G 37), .int (nI rn), .ref (gad G 38), .int (nI tn), .int fr, .int tto, .int tk, .int wo, .ref (gad G 39), .ref (gad G 40), .ref (gad G 41), .ref (gad G 42), .ref (gad G 43), .ref (gad G 44), .int (nI n2), .int (nI qn), .int iz, .int (bi im)]) := by rw [hp110]; exact (vu_e (by decide) o1_30)
                    have a1_31 : w31 33 = .inl (gI G, 132, .inl (upd (upd (upd f (a * 11 + 0) (h)) (a * 11 + 1) (t)) (a * 11 + 2) (lo))) := by rw [hp110]; exact vu_s
                    refine lv_aload_n hx hb dX11_test_113 rfl (lv_at hl 2 rfl) ?_
                    refine lv_iload_n hx hb dX11_test_114 rfl (lv_at hl 3 rfl) ?_
                    refine lv_iconst (v := 3) hx hb dX11_test_115 (by decide) ?_
                    refine lv_iload hx hb dX11_test_116 (lv_at hl 7 rfl) ?_
                    refine cQv (rV (As := [_, _, _]) ⟨hx, hb, hml, hown, hts⟩ hw (k_X11_sets l o1_31 a1_31 hn (ixm a 3) (by omega)) (cv_X11_sets hts tw_975 rfl rfl ⟨Nat.le_of_ble_eq_true rfl, Nat.le_of_ble_eq_true rfl⟩) (by decide) o1_31 rfl rfl hl.1 rfl (by first | exact Nat.le_of_ble_eq_true rfl | decide) dX11_test_118 ⟨Nat.zero_le _, Nat.zero_le _⟩) hw hS (fun w32 H locs hp118 hw hS => ?_)
                    have o1_32 : w32 32 = .inr (9, [.ref (gad G 33), .ref (gad G 34), .ref (gad G 35), .int (nI n), .int (nI n1), .int z, .int hd, .int sd, .ref (gad G 36), .ref (gad G 37), .int (nI rn), .ref (gad G 38), .int (nI tn), .int fr, .int tto, .int tk, .int wo, .ref (gad G 39), .ref (gad G 40), .ref (gad G 41), .ref (gad G 42), .ref (gad G 43), .ref (gad G 44), .int (nI n2), .int (nI qn), .int iz, .int (bi im)]) := by rw [hp118]; exact (vu_e (by decide) o1_31)
                    have a1_32 : w32 33 = .inl (gI G, 132, .inl (upd (upd (upd (upd f (a * 11 + 0) (h)) (a * 11 + 1) (t)) (a * 11 + 2) (lo)) (a * 11 + 3) (hi))) := by rw [hp118]; exact vu_s
                    refine lv_iload hx hb dX11_test_121 (lv_at hl 0 rfl) ?_
                    exact re_Q hx hb hr hlocks (rfl) hw hS dX11_test_123 (Or.inr ⟨a, ha, rfl, by simp [tOK, hnd, if_pos c2, c19, c28, c55, c66, c77], rfl, by rw [hp118, hp110, hp102, hp95, up_up, up_up, up_up]; rfl⟩)
                  · refine lv_bipush (v := (-2)) hx hb dX11_test_80 (by decide) ?_
                    exact re_Q hx hb hr hlocks (rfl) hw hS dX11_test_82 (Or.inl ⟨by simp [tOK, if_pos c2, c19, c28, c55, c66, c77, hnd], rfl, rfl⟩)
set_option maxHeartbeats 4000000 in
set_option maxRecDepth 100000 in
theorem k_X11_grant (l : Launch) {G : GT} {c : Nat → va_E} {n n1 rn tn n2 qn : Nat} {z hd sd fr tto tk wo iz : Int32} {im : Bool} (o1 : c 32 = .inr (9, [.ref (gad G 33), .ref (gad G 34), .ref (gad G 35), .int (nI n), .int (nI n1), .int z, .int hd, .int sd, .ref (gad G 36), .ref (gad G 37), .int (nI rn), .ref (gad G 38), .int (nI tn), .int fr, .int tto, .int tk, .int wo, .ref (gad G 39), .ref (gad G 40), .ref (gad G 41), .ref (gad G 42), .ref (gad G 43), .ref (gad G 44), .int (nI n2), .int (nI qn), .int iz, .int (bi im)])) {f : Nat → Int32} (a1 : c 33 = .inl (gI G, 132, .inl f)) (hn : n ≤ 12) {x h t lo hi : Int32} : Met l yX11_grant (wv yX11_grant cX11_grant 7 (some .int)) ({ frames := 2, cells := 0, slots := 0, locals := 43 } : Room) (va_Pc [.ref (gad G 32), .int x, .int h, .int t, .int lo, .int hi] (fun U => Hw G c U U.heap)) (va_Qi (fun r (c9 : Nat → va_E) => (gOK n x h t lo hi = false ∧ r = -2 ∧ c9 = c) ∨ (∃ a, a < n ∧ x = nI a ∧ gOK n x h t lo hi = true ∧ r = f (a * 11 + 4) ∧ c9 = va_up c 33 (.inl (gI G, 132, .inl (u4 f (a * 11 + 4) h t lo hi))))) (fun c9 t => Hw G c9 t t.heap) (gA G)) 0 0 (gA G) := by
  refine en (by decide +kernel) (by first | exact Nat.le_of_ble_eq_true rfl | decide) ?_
  intro p e s m below meth cd ls hx hb hr hml hown hts hlocks hnm hw hl
  have hl : lv_has ls 7 [(0, .ref (gad G 32)), (1, .int x), (2, .int h), (3, .int t), (4, .int lo), (5, .int hi)] := hl
  have hX : Sw G s s.heap := hw.2.2.2.2.2
  have hS : va_S (gA G) s.heap s.heap [] := va_S.rf
  obtain ⟨H, hH⟩ : ∃ wz9, wz9 = s.heap := ⟨_, rfl⟩
  obtain ⟨locs, hlocs⟩ : ∃ wz9 : List Loc, wz9 = [] := ⟨_, rfl⟩
  have hw : Hw G c s H := by rw [hH]; exact hw
  have hS : va_S (gA G) s.heap H locs := by rw [hH, hlocs]; exact hS
  suffices hgo : W p l e ({ frames := 2, cells := 0, slots := 0, locals := 43 } : Room) s m (([.ref (gad G 32), .int x, .int h, .int t, .int lo, .int hi] : List Value).toArray) below meth cd H locs 0 0 (MQ below (va_Qi (fun r (c9 : Nat → va_E) => (gOK n x h t lo hi = false ∧ r = -2 ∧ c9 = c) ∨ (∃ a, a < n ∧ x = nI a ∧ gOK n x h t lo hi = true ∧ r = f (a * 11 + 4) ∧ c9 = va_up c 33 (.inl (gI G, 132, .inl (u4 f (a * 11 + 4) h t lo hi))))) (fun c9 t => Hw G c9 t t.heap) (gA G)) ([.ref (gad G 32), .int x, .int h, .int t, .int lo, .int hi] : List Value).toArray s 0 0 (gA G)) (F0 m 0 ls []) by rw [hH, hlocs] at hgo; exact hgo
  refine lv_aload_n hx hb dX11_grant_0 rfl (lv_at hl 0 rfl) ?_
  refine lv_iload_n hx hb dX11_grant_1 rfl (lv_at hl 1 rfl) ?_
  refine cSe (rV (As := [_]) ⟨hx, hb, hml, hown, hts⟩ hw (k_X11_isClause l o1 a1 hn) (cv_X11_isClause hts tw_983 rfl rfl ⟨Nat.le_of_ble_eq_true rfl, Nat.le_of_ble_eq_true rfl⟩) (by decide) o1 rfl rfl hl.1 rfl (by first | exact Nat.le_of_ble_eq_true rfl | decide) dX11_grant_2 ⟨Nat.zero_le _, Nat.zero_le _⟩) ?_
  refine zb_eq (tgt := 65) hx hb dX11_grant_5 (by decide) (fun c5 => ?_) (fun c5 => ?_)
  · refine lv_bipush (v := (-2)) hx hb dX11_grant_65 (by decide) ?_
    exact re_Q hx hb hr hlocks (rfl) hw hS dX11_grant_67 (Or.inl ⟨by simp [gOK, c5], rfl, rfl⟩)
  · refine lv_iload_n hx hb dX11_grant_8 rfl (lv_at hl 2 rfl) ?_
    refine lv_iconst (v := 0) hx hb dX11_grant_9 (by decide) ?_
    refine lv_iconst (v := 4) hx hb dX11_grant_10 (by decide) ?_
    refine cSe (rST (As := [_, _, _]) ⟨hx, hb, hml, hown, hts⟩ (k_X11_in l ) (cv_X11_in hts tw_987 rfl rfl ⟨Nat.le_of_ble_eq_true rfl, Nat.le_of_ble_eq_true rfl⟩) rfl hl.1 rfl (by first | exact Nat.le_of_ble_eq_true rfl | decide) dX11_grant_11 ⟨Nat.zero_le _, Nat.zero_le _⟩) ?_
    refine zb_eq (tgt := 65) hx hb dX11_grant_14 (by decide) (fun c14 => ?_) (fun c14 => ?_)
    · refine lv_bipush (v := (-2)) hx hb dX11_grant_65 (by decide) ?_
      exact re_Q hx hb hr hlocks (rfl) hw hS dX11_grant_67 (Or.inl ⟨by simp [gOK, c5, c14], rfl, rfl⟩)
    · refine lv_iload_n hx hb dX11_grant_17 rfl (lv_at hl 2 rfl) ?_
      refine lv_iconst (v := 1) hx hb dX11_grant_18 (by decide) ?_
      refine lv_icmp_eq (tgt := 32) hx hb dX11_grant_19 (by decide) (fun c19 => ?_) (fun c19 => ?_)
      · skip
        refine lv_iconst (v := 1) hx hb dX11_grant_32 (by decide) ?_
        refine lv_goto (tgt := 37) hx hb dX11_grant_33 (by decide) ?_
        have hnd : ndT h = true := by simp [ndT, c19]
        refine lv_iload_n hx hb dX11_grant_37 rfl (lv_at hl 3 rfl) ?_
        refine cSe (rST (As := [_, _]) ⟨hx, hb, hml, hown, hts⟩ (k_X11_isTrait_t l ) (cv_X11_isTrait hts tw_990 rfl rfl ⟨Nat.le_of_ble_eq_true rfl, Nat.le_of_ble_eq_true rfl⟩) rfl hl.1 rfl (by first | exact Nat.le_of_ble_eq_true rfl | decide) dX11_grant_38 ⟨Nat.zero_le _, Nat.zero_le _⟩) ?_
        refine zb_eq (tgt := 65) hx hb dX11_grant_41 (by decide) (fun c41 => ?_) (fun c41 => ?_)
        · refine lv_bipush (v := (-2)) hx hb dX11_grant_65 (by decide) ?_
          exact re_Q hx hb hr hlocks (rfl) hw hS dX11_grant_67 (Or.inl ⟨by simp [gOK, c5, c14, c41, hnd], rfl, rfl⟩)
        · refine lv_iload hx hb dX11_grant_44 (lv_at hl 4 rfl) ?_
          refine lv_iconst (v := 0) hx hb dX11_grant_46 (by decide) ?_
          refine lv_sipush (v := 999) hx hb dX11_grant_47 (by decide) ?_
          refine cSe (rST (As := [_, _, _]) ⟨hx, hb, hml, hown, hts⟩ (k_X11_in l ) (cv_X11_in hts tw_987 rfl rfl ⟨Nat.le_of_ble_eq_true rfl, Nat.le_of_ble_eq_true rfl⟩) rfl hl.1 rfl (by first | exact Nat.le_of_ble_eq_true rfl | decide) dX11_grant_50 ⟨Nat.zero_le _, Nat.zero_le _⟩) ?_
          refine zb_eq (tgt := 65) hx hb dX11_grant_53 (by decide) (fun c53 => ?_) (fun c53 => ?_)
          · refine lv_bipush (v := (-2)) hx hb dX11_grant_65 (by decide) ?_
            exact re_Q hx hb hr hlocks (rfl) hw hS dX11_grant_67 (Or.inl ⟨by simp [gOK, c5, c14, c41, c53, hnd], rfl, rfl⟩)
          · refine lv_iload_n hx hb dX11_grant_56 rfl (lv_at hl 2 rfl) ?_
            refine lv_iload hx hb dX11_grant_57 (lv_at hl 5 rfl) ?_
            refine cSe (rST (As := [_, _]) ⟨hx, hb, hml, hown, hts⟩ (k_X11_isLess_g l ) (cv_X11_isLess hts tw_1001 rfl rfl ⟨Nat.le_of_ble_eq_true rfl, Nat.le_of_ble_eq_true rfl⟩) rfl hl.1 rfl (by first | exact Nat.le_of_ble_eq_true rfl | decide) dX11_grant_59 ⟨Nat.zero_le _, Nat.zero_le _⟩) ?_
            refine zb_ne (tgt := 68) hx hb dX11_grant_62 (by decide) (fun c62 => ?_) (fun c62 => ?_)
            · obtain ⟨a, ha, rfl⟩ := hasN_t hn c5
              refine lv_aload_n hx hb dX11_grant_68 rfl (lv_at hl 0 rfl) ?_
              refine lv_iload_n hx hb dX11_grant_69 rfl (lv_at hl 1 rfl) ?_
              refine lv_iconst (v := 4) hx hb dX11_grant_70 (by decide) ?_
              refine cSe (rV (As := [_, _]) ⟨hx, hb, hml, hown, hts⟩ hw (k_X11_is l o1 a1 hn (ixm a 4) (by omega)) (cv_X11_is hts tw_993 rfl rfl ⟨Nat.le_of_ble_eq_true rfl, Nat.le_of_ble_eq_true rfl⟩) (by decide) o1 rfl rfl hl.1 rfl (by first | exact Nat.le_of_ble_eq_true rfl | decide) dX11_grant_71 ⟨Nat.zero_le _, Nat.zero_le _⟩) ?_
              refine lv_istore (lv' := [(6, _), (0, _), (1, _), (2, _), (3, _), (4, _), (5, _)]) hx hb dX11_grant_74 hl (by decide) rfl (fun ls hl => ?_)
              refine lv_aload_n hx hb dX11_grant_76 rfl (lv_at hl 1 rfl) ?_
              refine lv_iload_n hx hb dX11_grant_77 rfl (lv_at hl 2 rfl) ?_
              refine lv_iconst (v := 4) hx hb dX11_grant_78 (by decide) ?_
              refine lv_iload_n hx hb dX11_grant_79 rfl (lv_at hl 3 rfl) ?_
              refine cQv (rV (As := [_, _, _]) ⟨hx, hb, hml, hown, hts⟩ hw (k_X11_sets l o1 a1 hn (ixm a 4) (by omega)) (cv_X11_sets hts tw_975 rfl rfl ⟨Nat.le_of_ble_eq_true rfl, Nat.le_of_ble_eq_true rfl⟩) (by decide) o1 rfl rfl hl.1 rfl (by first | exact Nat.le_of_ble_eq_true rfl | decide) dX11_grant_80 ⟨Nat.zero_le _, Nat.zero_le _⟩) hw hS (fun w1 H locs hp80 hw hS => ?_)
              have o1_1 : w1 32 = .inr (9, [.ref (gad G 33), .ref (gad G 34), .ref (gad G 35), .int (nI n), .int (nI n1), .int z, .int hd, .int sd, .ref (gad G 36), .ref (gad G 37), .int (nI rn), .ref (gad G 38), .int (nI tn), .int fr, .int tto, .int tk, .int wo, .ref (gad G 39), .ref (gad G 40), .ref (gad G 41), .ref (gad G 42), .ref (gad G 43), .ref (gad G 44), .int (nI n2), .int (nI qn), .int iz, .int (bi im)]) := by rw [hp80]; exact (vu_e (by decide) o1)
              have a1_1 : w1 33 = .inl (gI G, 132, .inl (upd f (a * 11 + 4) (h))) := by rw [hp80]; exact vu_s
              refine lv_aload_n hx hb dX11_grant_83 rfl (lv_at hl 1 rfl) ?_
              refine lv_iload_n hx hb dX11_grant_84 rfl (lv_at hl 2 rfl) ?_
              refine lv_iconst (v := 5) hx hb dX11_grant_85 (by decide) ?_
              refine lv_iload_n hx hb dX11_grant_86 rfl (lv_at hl 4 rfl) ?_
              refine cQv (rV (As := [_, _, _]) ⟨hx, hb, hml, hown, hts⟩ hw (k_X11_sets l o1_1 a1_1 hn (ixm a 5) (by omega)) (cv_X11_sets hts tw_975 rfl rfl ⟨Nat.le_of_ble_eq_true rfl, Nat.le_of_ble_eq_true rfl⟩) (by decide) o1_1 rfl rfl hl.1 rfl (by first | exact Nat.le_of_ble_eq_true rfl | decide) dX11_grant_87 ⟨Nat.zero_le _, Nat.zero_le _⟩) hw hS (fun w2 H locs hp87 hw hS => ?_)
              have o1_2 : w2 32 = .inr (9, [.ref (gad G 33), .ref (gad G 34), .ref (gad G 35), .int (nI n), .int (nI n1), .int z, .int hd, .int sd, .ref (gad G 36), .ref (gad G 37), .int (nI rn), .ref (gad G 38), .int (nI tn), .int fr, .int tto, .int tk, .int wo, .ref (gad G 39), .ref (gad G 40), .ref (gad G 41), .ref (gad G 42), .ref (gad G 43), .ref (gad G 44), .int (nI n2), .int (nI qn), .int iz, .int (bi im)]) := by rw [hp87]; exact (vu_e (by decide) o1_1)
              have a1_2 : w2 33 = .inl (gI G, 132, .inl (upd (upd f (a * 11 + 4) (h)) (a * 11 + 5) (t))) := by rw [hp87]; exact vu_s
              refine lv_aload_n hx hb dX11_grant_90 rfl (lv_at hl 1 rfl) ?_
              refine lv_iload_n hx hb dX11_grant_91 rfl (lv_at hl 2 rfl) ?_
              refine lv_bipush (v := 6) hx hb dX11_grant_92 (by decide) ?_
              refine lv_iload hx hb dX11_grant_94 (lv_at hl 5 rfl) ?_
              refine cQv (rV (As := [_, _, _]) ⟨hx, hb, hml, hown, hts⟩ hw (k_X11_sets l o1_2 a1_2 hn (ixm a 6) (by omega)) (cv_X11_sets hts tw_975 rfl rfl ⟨Nat.le_of_ble_eq_true rfl, Nat.le_of_ble_eq_true rfl⟩) (by decide) o1_2 rfl rfl hl.1 rfl (by first | exact Nat.le_of_ble_eq_true rfl | decide) dX11_grant_96 ⟨Nat.zero_le _, Nat.zero_le _⟩) hw hS (fun w3 H locs hp96 hw hS => ?_)
              have o1_3 : w3 32 = .inr (9, [.ref (gad G 33), .ref (gad G 34), .ref (gad G 35), .int (nI n), .int (nI n1), .int z, .int hd, .int sd, .ref (gad G 36), .ref (gad G 37), .int (nI rn), .ref (gad G 38), .int (nI tn), .int fr, .int tto, .int tk, .int wo, .ref (gad G 39), .ref (gad G 40), .ref (gad G 41), .ref (gad G 42), .ref (gad G 43), .ref (gad G 44), .int (nI n2), .int (nI qn), .int iz, .int (bi im)]) := by rw [hp96]; exact (vu_e (by decide) o1_2)
              have a1_3 : w3 33 = .inl (gI G, 132, .inl (upd (upd (upd f (a * 11 + 4) (h)) (a * 11 + 5) (t)) (a * 11 + 6) (lo))) := by rw [hp96]; exact vu_s
              refine lv_aload_n hx hb dX11_grant_99 rfl (lv_at hl 1 rfl) ?_
              refine lv_iload_n hx hb dX11_grant_100 rfl (lv_at hl 2 rfl) ?_
              refine lv_bipush (v := 7) hx hb dX11_grant_101 (by decide) ?_
              refine lv_iload hx hb dX11_grant_103 (lv_at hl 6 rfl) ?_
              refine cQv (rV (As := [_, _, _]) ⟨hx, hb, hml, hown, hts⟩ hw (k_X11_sets l o1_3 a1_3 hn (ixm a 7) (by omega)) (cv_X11_sets hts tw_975 rfl rfl ⟨Nat.le_of_ble_eq_true rfl, Nat.le_of_ble_eq_true rfl⟩) (by decide) o1_3 rfl rfl hl.1 rfl (by first | exact Nat.le_of_ble_eq_true rfl | decide) dX11_grant_105 ⟨Nat.zero_le _, Nat.zero_le _⟩) hw hS (fun w4 H locs hp105 hw hS => ?_)
              have o1_4 : w4 32 = .inr (9, [.ref (gad G 33), .ref (gad G 34), .ref (gad G 35), .int (nI n), .int (nI n1), .int z, .int hd, .int sd, .ref (gad G 36), .ref (gad G 37), .int (nI rn), .ref (gad G 38), .int (nI tn), .int fr, .int tto, .int tk, .int wo, .ref (gad G 39), .ref (gad G 40), .ref (gad G 41), .ref (gad G 42), .ref (gad G 43), .ref (gad G 44), .int (nI n2), .int (nI qn), .int iz, .int (bi im)]) := by rw [hp105]; exact (vu_e (by decide) o1_3)
              have a1_4 : w4 33 = .inl (gI G, 132, .inl (upd (upd (upd (upd f (a * 11 + 4) (h)) (a * 11 + 5) (t)) (a * 11 + 6) (lo)) (a * 11 + 7) (hi))) := by rw [hp105]; exact vu_s
              refine lv_iload hx hb dX11_grant_108 (lv_at hl 0 rfl) ?_
              exact re_Q hx hb hr hlocks (rfl) hw hS dX11_grant_110 (Or.inr ⟨a, ha, rfl, by simp [gOK, hnd, c5, c14, c41, c53, c62], rfl, by rw [hp105, hp96, hp87, hp80, up_up, up_up, up_up]; rfl⟩)
            · refine lv_bipush (v := (-2)) hx hb dX11_grant_65 (by decide) ?_
              exact re_Q hx hb hr hlocks (rfl) hw hS dX11_grant_67 (Or.inl ⟨by simp [gOK, c5, c14, c41, c53, c62, hnd], rfl, rfl⟩)
      · refine lv_iload_n hx hb dX11_grant_22 rfl (lv_at hl 2 rfl) ?_
        refine lv_iconst (v := 2) hx hb dX11_grant_23 (by decide) ?_
        refine lv_icmp_eq (tgt := 32) hx hb dX11_grant_24 (by decide) (fun c24 => ?_) (fun c24 => ?_)
        · skip
          refine lv_iconst (v := 1) hx hb dX11_grant_32 (by decide) ?_
          refine lv_goto (tgt := 37) hx hb dX11_grant_33 (by decide) ?_
          have hnd : ndT h = true := by simp [ndT, c19, c24]
          refine lv_iload_n hx hb dX11_grant_37 rfl (lv_at hl 3 rfl) ?_
          refine cSe (rST (As := [_, _]) ⟨hx, hb, hml, hown, hts⟩ (k_X11_isTrait_t l ) (cv_X11_isTrait hts tw_990 rfl rfl ⟨Nat.le_of_ble_eq_true rfl, Nat.le_of_ble_eq_true rfl⟩) rfl hl.1 rfl (by first | exact Nat.le_of_ble_eq_true rfl | decide) dX11_grant_38 ⟨Nat.zero_le _, Nat.zero_le _⟩) ?_
          refine zb_eq (tgt := 65) hx hb dX11_grant_41 (by decide) (fun c41 => ?_) (fun c41 => ?_)
          · refine lv_bipush (v := (-2)) hx hb dX11_grant_65 (by decide) ?_
            exact re_Q hx hb hr hlocks (rfl) hw hS dX11_grant_67 (Or.inl ⟨by simp [gOK, c5, c14, c41, hnd], rfl, rfl⟩)
          · refine lv_iload hx hb dX11_grant_44 (lv_at hl 4 rfl) ?_
            refine lv_iconst (v := 0) hx hb dX11_grant_46 (by decide) ?_
            refine lv_sipush (v := 999) hx hb dX11_grant_47 (by decide) ?_
            refine cSe (rST (As := [_, _, _]) ⟨hx, hb, hml, hown, hts⟩ (k_X11_in l ) (cv_X11_in hts tw_987 rfl rfl ⟨Nat.le_of_ble_eq_true rfl, Nat.le_of_ble_eq_true rfl⟩) rfl hl.1 rfl (by first | exact Nat.le_of_ble_eq_true rfl | decide) dX11_grant_50 ⟨Nat.zero_le _, Nat.zero_le _⟩) ?_
            refine zb_eq (tgt := 65) hx hb dX11_grant_53 (by decide) (fun c53 => ?_) (fun c53 => ?_)
            · refine lv_bipush (v := (-2)) hx hb dX11_grant_65 (by decide) ?_
              exact re_Q hx hb hr hlocks (rfl) hw hS dX11_grant_67 (Or.inl ⟨by simp [gOK, c5, c14, c41, c53, hnd], rfl, rfl⟩)
            · refine lv_iload_n hx hb dX11_grant_56 rfl (lv_at hl 2 rfl) ?_
              refine lv_iload hx hb dX11_grant_57 (lv_at hl 5 rfl) ?_
              refine cSe (rST (As := [_, _]) ⟨hx, hb, hml, hown, hts⟩ (k_X11_isLess_g l ) (cv_X11_isLess hts tw_1001 rfl rfl ⟨Nat.le_of_ble_eq_true rfl, Nat.le_of_ble_eq_true rfl⟩) rfl hl.1 rfl (by first | exact Nat.le_of_ble_eq_true rfl | decide) dX11_grant_59 ⟨Nat.zero_le _, Nat.zero_le _⟩) ?_
              refine zb_ne (tgt := 68) hx hb dX11_grant_62 (by decide) (fun c62 => ?_) (fun c62 => ?_)
              · obtain ⟨a, ha, rfl⟩ := hasN_t hn c5
                refine lv_aload_n hx hb dX11_grant_68 rfl (lv_at hl 0 rfl) ?_
                refine lv_iload_n hx hb dX11_grant_69 rfl (lv_at hl 1 rfl) ?_
                refine lv_iconst (v := 4) hx hb dX11_grant_70 (by decide) ?_
                refine cSe (rV (As := [_, _]) ⟨hx, hb, hml, hown, hts⟩ hw (k_X11_is l o1 a1 hn (ixm a 4) (by omega)) (cv_X11_is hts tw_993 rfl rfl ⟨Nat.le_of_ble_eq_true rfl, Nat.le_of_ble_eq_true rfl⟩) (by decide) o1 rfl rfl hl.1 rfl (by first | exact Nat.le_of_ble_eq_true rfl | decide) dX11_grant_71 ⟨Nat.zero_le _, Nat.zero_le _⟩) ?_
                refine lv_istore (lv' := [(6, _), (0, _), (1, _), (2, _), (3, _), (4, _), (5, _)]) hx hb dX11_grant_74 hl (by decide) rfl (fun ls hl => ?_)
                refine lv_aload_n hx hb dX11_grant_76 rfl (lv_at hl 1 rfl) ?_
                refine lv_iload_n hx hb dX11_grant_77 rfl (lv_at hl 2 rfl) ?_
                refine lv_iconst (v := 4) hx hb dX11_grant_78 (by decide) ?_
                refine lv_iload_n hx hb dX11_grant_79 rfl (lv_at hl 3 rfl) ?_
                refine cQv (rV (As := [_, _, _]) ⟨hx, hb, hml, hown, hts⟩ hw (k_X11_sets l o1 a1 hn (ixm a 4) (by omega)) (cv_X11_sets hts tw_975 rfl rfl ⟨Nat.le_of_ble_eq_true rfl, Nat.le_of_ble_eq_true rfl⟩) (by decide) o1 rfl rfl hl.1 rfl (by first | exact Nat.le_of_ble_eq_true rfl | decide) dX11_grant_80 ⟨Nat.zero_le _, Nat.zero_le _⟩) hw hS (fun w5 H locs hp80 hw hS => ?_)
                have o1_5 : w5 32 = .inr (9, [.ref (gad G 33), .ref (gad G 34), .ref (gad G 35), .int (nI n), .int (nI n1), .int z, .int hd, .int sd, .ref (gad G 36), .ref (gad G 37), .int (nI rn), .ref (gad G 38), .int (nI tn), .int fr, .int tto, .int tk, .int wo, .ref (gad G 39), .ref (gad G 40), .ref (gad G 41), .ref (gad G 42), .ref (gad G 43), .ref (gad G 44), .int (nI n2), .int (nI qn), .int iz, .int (bi im)]) := by rw [hp80]; exact (vu_e (by decide) o1)
                have a1_5 : w5 33 = .inl (gI G, 132, .inl (upd f (a * 11 + 4) (h))) := by rw [hp80]; exact vu_s
                refine lv_aload_n hx hb dX11_grant_83 rfl (lv_at hl 1 rfl) ?_
                refine lv_iload_n hx hb dX11_grant_84 rfl (lv_at hl 2 rfl) ?_
                refine lv_iconst (v := 5) hx hb dX11_grant_85 (by decide) ?_
                refine lv_iload_n hx hb dX11_grant_86 rfl (lv_at hl 4 rfl) ?_
                refine cQv (rV (As := [_, _, _]) ⟨hx, hb, hml, hown, hts⟩ hw (k_X11_sets l o1_5 a1_5 hn (ixm a 5) (by omega)) (cv_X11_sets hts tw_975 rfl rfl ⟨Nat.le_of_ble_eq_true rfl, Nat.le_of_ble_eq_true rfl⟩) (by decide) o1_5 rfl rfl hl.1 rfl (by first | exact Nat.le_of_ble_eq_true rfl | decide) dX11_grant_87 ⟨Nat.zero_le _, Nat.zero_le _⟩) hw hS (fun w6 H locs hp87 hw hS => ?_)
                have o1_6 : w6 32 = .inr (9, [.ref (gad G 33), .ref (gad G 34), .ref (gad G 35), .int (nI n), .int (nI n1), .int z, .int hd, .int sd, .ref (gad G 36), .ref (gad G 37), .int (nI rn), .ref (gad G 38), .int (nI tn), .int fr, .int tto, .int tk, .int wo, .ref (gad G 39), .ref (gad G 40), .ref (gad G 41), .ref (gad G 42), .ref (gad G 43), .ref (gad G 44), .int (nI n2), .int (nI qn), .int iz, .int (bi im)]) := by rw [hp87]; exact (vu_e (by decide) o1_5)
                have a1_6 : w6 33 = .inl (gI G, 132, .inl (upd (upd f (a * 11 + 4) (h)) (a * 11 + 5) (t))) := by rw [hp87]; exact vu_s
                refine lv_aload_n hx hb dX11_grant_90 rfl (lv_at hl 1 rfl) ?_
                refine lv_iload_n hx hb dX11_grant_91 rfl (lv_at hl 2 rfl) ?_
                refine lv_bipush (v := 6) hx hb dX11_grant_92 (by decide) ?_
                refine lv_iload hx hb dX11_grant_94 (lv_at hl 5 rfl) ?_
                refine cQv (rV (As := [_, _, _]) ⟨hx, hb, hml, hown, hts⟩ hw (k_X11_sets l o1_6 a1_6 hn (ixm a 6) (by omega)) (cv_X11_sets hts tw_975 rfl rfl ⟨Nat.le_of_ble_eq_true rfl, Nat.le_of_ble_eq_true rfl⟩) (by decide) o1_6 rfl rfl hl.1 rfl (by first | exact Nat.le_of_ble_eq_true rfl | decide) dX11_grant_96 ⟨Nat.zero_le _, Nat.zero_le _⟩) hw hS (fun w7 H locs hp96 hw hS => ?_)
                have o1_7 : w7 32 = .inr (9, [.ref (gad G 33), .ref (gad G 34), .ref (gad G 35), .int (nI n), .int (nI n1), .int z, .int hd, .int sd, .ref (gad G 36), .ref (gad G 37), .int (nI rn), .ref (gad G 38), .int (nI tn), .int fr, .int tto, .int tk, .int wo, .ref (gad G 39), .ref (gad G 40), .ref (gad G 41), .ref (gad G 42), .ref (gad G 43), .ref (gad G 44), .int (nI n2), .int (nI qn), .int iz, .int (bi im)]) := by rw [hp96]; exact (vu_e (by decide) o1_6)
                have a1_7 : w7 33 = .inl (gI G, 132, .inl (upd (upd (upd f (a * 11 + 4) (h)) (a * 11 + 5) (t)) (a * 11 + 6) (lo))) := by rw [hp96]; exact vu_s
                refine lv_aload_n hx hb dX11_grant_99 rfl (lv_at hl 1 rfl) ?_
                refine lv_iload_n hx hb dX11_grant_100 rfl (lv_at hl 2 rfl) ?_
                refine lv_bipush (v := 7) hx hb dX11_grant_101 (by decide) ?_
                refine lv_iload hx hb dX11_grant_103 (lv_at hl 6 rfl) ?_
                refine cQv (rV (As := [_, _, _]) ⟨hx, hb, hml, hown, hts⟩ hw (k_X11_sets l o1_7 a1_7 hn (ixm a 7) (by omega)) (cv_X11_sets hts tw_975 rfl rfl ⟨Nat.le_of_ble_eq_true rfl, Nat.le_of_ble_eq_true rfl⟩) (by decide) o1_7 rfl rfl hl.1 rfl (by first | exact Nat.le_of_ble_eq_true rfl | decide) dX11_grant_105 ⟨Nat.zero_le _, Nat.zero_le _⟩) hw hS (fun w8 H locs hp105 hw hS => ?_)
                have o1_8 : w8 32 = .inr (9, [.ref (gad G 33), .ref (gad G 34), .ref (gad G 35), .int (nI n), .int (nI n1), .int z, .int hd, .int sd, .ref (gad G 36), .ref (gad G 37), .int (nI rn), .ref (gad G 38), .int (nI tn), .int fr, .int tto, .int tk, .int wo, .ref (gad G 39), .ref (gad G 40), .ref (gad G 41), .ref (gad G 42), .ref (gad G 43), .ref (gad G 44), .int (nI n2), .int (nI qn), .int iz, .int (bi im)]) := by rw [hp105]; exact (vu_e (by decide) o1_7)
                have a1_8 : w8 33 = .inl (gI G, 132, .inl (upd (upd (upd (upd f (a * 11 + 4) (h)) (a * 11 + 5) (t)) (a * 11 + 6) (lo)) (a * 11 + 7) (hi))) := by rw [hp105]; exact vu_s
                refine lv_iload hx hb dX11_grant_108 (lv_at hl 0 rfl) ?_
                exact re_Q hx hb hr hlocks (rfl) hw hS dX11_grant_110 (Or.inr ⟨a, ha, rfl, by simp [gOK, hnd, c5, c14, c41, c53, c62], rfl, by rw [hp105, hp96, hp87, hp80, up_up, up_up, up_up]; rfl⟩)
              · refine lv_bipush (v := (-2)) hx hb dX11_grant_65 (by decide) ?_
                exact re_Q hx hb hr hlocks (rfl) hw hS dX11_grant_67 (Or.inl ⟨by simp [gOK, c5, c14, c41, c53, c62, hnd], rfl, rfl⟩)
        · refine lv_iload_n hx hb dX11_grant_27 rfl (lv_at hl 2 rfl) ?_
          refine lv_iconst (v := 4) hx hb dX11_grant_28 (by decide) ?_
          refine lv_icmp_ne (tgt := 36) hx hb dX11_grant_29 (by decide) (fun c29 => ?_) (fun c29 => ?_)
          · refine lv_iconst (v := 0) hx hb dX11_grant_36 (by decide) ?_
            have hnd : ndT h = false := by simp [ndT, c19, c24, c29]
            refine lv_iload_n hx hb dX11_grant_37 rfl (lv_at hl 3 rfl) ?_
            refine cSe (rST (As := [_, _]) ⟨hx, hb, hml, hown, hts⟩ (k_X11_isTrait_f l ) (cv_X11_isTrait hts tw_990 rfl rfl ⟨Nat.le_of_ble_eq_true rfl, Nat.le_of_ble_eq_true rfl⟩) rfl hl.1 rfl (by first | exact Nat.le_of_ble_eq_true rfl | decide) dX11_grant_38 ⟨Nat.zero_le _, Nat.zero_le _⟩) ?_
            refine zb_eq (tgt := 65) hx hb dX11_grant_41 (by decide) (fun c41 => ?_) (fun c41 => ?_)
            · refine lv_bipush (v := (-2)) hx hb dX11_grant_65 (by decide) ?_
              exact re_Q hx hb hr hlocks (rfl) hw hS dX11_grant_67 (Or.inl ⟨by simp [gOK, c5, c14, c41, hnd], rfl, rfl⟩)
            · refine lv_iload hx hb dX11_grant_44 (lv_at hl 4 rfl) ?_
              refine lv_iconst (v := 0) hx hb dX11_grant_46 (by decide) ?_
              refine lv_sipush (v := 999) hx hb dX11_grant_47 (by decide) ?_
              refine cSe (rST (As := [_, _, _]) ⟨hx, hb, hml, hown, hts⟩ (k_X11_in l ) (cv_X11_in hts tw_987 rfl rfl ⟨Nat.le_of_ble_eq_true rfl, Nat.le_of_ble_eq_true rfl⟩) rfl hl.1 rfl (by first | exact Nat.le_of_ble_eq_true rfl | decide) dX11_grant_50 ⟨Nat.zero_le _, Nat.zero_le _⟩) ?_
              refine zb_eq (tgt := 65) hx hb dX11_grant_53 (by decide) (fun c53 => ?_) (fun c53 => ?_)
              · refine lv_bipush (v := (-2)) hx hb dX11_grant_65 (by decide) ?_
                exact re_Q hx hb hr hlocks (rfl) hw hS dX11_grant_67 (Or.inl ⟨by simp [gOK, c5, c14, c41, c53, hnd], rfl, rfl⟩)
              · refine lv_iload_n hx hb dX11_grant_56 rfl (lv_at hl 2 rfl) ?_
                refine lv_iload hx hb dX11_grant_57 (lv_at hl 5 rfl) ?_
                refine cSe (rST (As := [_, _]) ⟨hx, hb, hml, hown, hts⟩ (k_X11_isLess_g l ) (cv_X11_isLess hts tw_1001 rfl rfl ⟨Nat.le_of_ble_eq_true rfl, Nat.le_of_ble_eq_true rfl⟩) rfl hl.1 rfl (by first | exact Nat.le_of_ble_eq_true rfl | decide) dX11_grant_59 ⟨Nat.zero_le _, Nat.zero_le _⟩) ?_
                refine zb_ne (tgt := 68) hx hb dX11_grant_62 (by decide) (fun c62 => ?_) (fun c62 => ?_)
                · obtain ⟨a, ha, rfl⟩ := hasN_t hn c5
                  refine lv_aload_n hx hb dX11_grant_68 rfl (lv_at hl 0 rfl) ?_
                  refine lv_iload_n hx hb dX11_grant_69 rfl (lv_at hl 1 rfl) ?_
                  refine lv_iconst (v := 4) hx hb dX11_grant_70 (by decide) ?_
                  refine cSe (rV (As := [_, _]) ⟨hx, hb, hml, hown, hts⟩ hw (k_X11_is l o1 a1 hn (ixm a 4) (by omega)) (cv_X11_is hts tw_993 rfl rfl ⟨Nat.le_of_ble_eq_true rfl, Nat.le_of_ble_eq_true rfl⟩) (by decide) o1 rfl rfl hl.1 rfl (by first | exact Nat.le_of_ble_eq_true rfl | decide) dX11_grant_71 ⟨Nat.zero_le _, Nat.zero_le _⟩) ?_
                  refine lv_istore (lv' := [(6, _), (0, _), (1, _), (2, _), (3, _), (4, _), (5, _)]) hx hb dX11_grant_74 hl (by decide) rfl (fun ls hl => ?_)
                  refine lv_aload_n hx hb dX11_grant_76 rfl (lv_at hl 1 rfl) ?_
                  refine lv_iload_n hx hb dX11_grant_77 rfl (lv_at hl 2 rfl) ?_
                  refine lv_iconst (v := 4) hx hb dX11_grant_78 (by decide) ?_
                  refine lv_iload_n hx hb dX11_grant_79 rfl (lv_at hl 3 rfl) ?_
                  refine cQv (rV (As := [_, _, _]) ⟨hx, hb, hml, hown, hts⟩ hw (k_X11_sets l o1 a1 hn (ixm a 4) (by omega)) (cv_X11_sets hts tw_975 rfl rfl ⟨Nat.le_of_ble_eq_true rfl, Nat.le_of_ble_eq_true rfl⟩) (by decide) o1 rfl rfl hl.1 rfl (by first | exact Nat.le_of_ble_eq_true rfl | decide) dX11_grant_80 ⟨Nat.zero_le _, Nat.zero_le _⟩) hw hS (fun w9 H locs hp80 hw hS => ?_)
                  have o1_9 : w9 32 = .inr (9, [.ref (gad G 33), .ref (gad G 34), .ref (gad G 35), .int (nI n), .int (nI n1), .int z, .int hd, .int sd, .ref (gad G 36), .ref (gad G 37), .int (nI rn), .ref (gad G 38), .int (nI tn), .int fr, .int tto, .int tk, .int wo, .ref (gad G 39), .ref (gad G 40), .ref (gad G 41), .ref (gad G 42), .ref (gad G 43), .ref (gad G 44), .int (nI n2), .int (nI qn), .int iz, .int (bi im)]) := by rw [hp80]; exact (vu_e (by decide) o1)
                  have a1_9 : w9 33 = .inl (gI G, 132, .inl (upd f (a * 11 + 4) (h))) := by rw [hp80]; exact vu_s
                  refine lv_aload_n hx hb dX11_grant_83 rfl (lv_at hl 1 rfl) ?_
                  refine lv_iload_n hx hb dX11_grant_84 rfl (lv_at hl 2 rfl) ?_
                  refine lv_iconst (v := 5) hx hb dX11_grant_85 (by decide) ?_
                  refine lv_iload_n hx hb dX11_grant_86 rfl (lv_at hl 4 rfl) ?_
                  refine cQv (rV (As := [_, _, _]) ⟨hx, hb, hml, hown, hts⟩ hw (k_X11_sets l o1_9 a1_9 hn (ixm a 5) (by omega)) (cv_X11_sets hts tw_975 rfl rfl ⟨Nat.le_of_ble_eq_true rfl, Nat.le_of_ble_eq_true rfl⟩) (by decide) o1_9 rfl rfl hl.1 rfl (by first | exact Nat.le_of_ble_eq_true rfl | decide) dX11_grant_87 ⟨Nat.zero_le _, Nat.zero_le _⟩) hw hS (fun w10 H locs hp87 hw hS => ?_)
                  have o1_10 : w10 32 = .inr (9, [.ref (gad G 33), .ref (gad G 34), .ref (gad G 35), .int (nI n), .int (nI n1), .int z, .int hd, .int sd, .ref (gad G 36), .ref (gad G 37), .int (nI rn), .ref (gad G 38), .int (nI tn), .int fr, .int tto, .int tk, .int wo, .ref (gad G 39), .ref (gad G 40), .ref (gad G 41), .ref (gad G 42), .ref (gad G 43), .ref (gad G 44), .int (nI n2), .int (nI qn), .int iz, .int (bi im)]) := by rw [hp87]; exact (vu_e (by decide) o1_9)
                  have a1_10 : w10 33 = .inl (gI G, 132, .inl (upd (upd f (a * 11 + 4) (h)) (a * 11 + 5) (t))) := by rw [hp87]; exact vu_s
                  refine lv_aload_n hx hb dX11_grant_90 rfl (lv_at hl 1 rfl) ?_
                  refine lv_iload_n hx hb dX11_grant_91 rfl (lv_at hl 2 rfl) ?_
                  refine lv_bipush (v := 6) hx hb dX11_grant_92 (by decide) ?_
                  refine lv_iload hx hb dX11_grant_94 (lv_at hl 5 rfl) ?_
                  refine cQv (rV (As := [_, _, _]) ⟨hx, hb, hml, hown, hts⟩ hw (k_X11_sets l o1_10 a1_10 hn (ixm a 6) (by omega)) (cv_X11_sets hts tw_975 rfl rfl ⟨Nat.le_of_ble_eq_true rfl, Nat.le_of_ble_eq_true rfl⟩) (by decide) o1_10 rfl rfl hl.1 rfl (by first | exact Nat.le_of_ble_eq_true rfl | decide) dX11_grant_96 ⟨Nat.zero_le _, Nat.zero_le _⟩) hw hS (fun w11 H locs hp96 hw hS => ?_)
                  have o1_11 : w11 32 = .inr (9, [.ref (gad G 33), .ref (gad G 34), .ref (gad G 35), .int (nI n), .int (nI n1), .int z, .int hd, .int sd, .ref (gad G 36), .ref (gad G 37), .int (nI rn), .ref (gad G 38), .int (nI tn), .int fr, .int tto, .int tk, .int wo, .ref (gad G 39), .ref (gad G 40), .ref (gad G 41), .ref (gad G 42), .ref (gad G 43), .ref (gad G 44), .int (nI n2), .int (nI qn), .int iz, .int (bi im)]) := by rw [hp96]; exact (vu_e (by decide) o1_10)
                  have a1_11 : w11 33 = .inl (gI G, 132, .inl (upd (upd (upd f (a * 11 + 4) (h)) (a * 11 + 5) (t)) (a * 11 + 6) (lo))) := by rw [hp96]; exact vu_s
                  refine lv_aload_n hx hb dX11_grant_99 rfl (lv_at hl 1 rfl) ?_
                  refine lv_iload_n hx hb dX11_grant_100 rfl (lv_at hl 2 rfl) ?_
                  refine lv_bipush (v := 7) hx hb dX11_grant_101 (by decide) ?_
                  refine lv_iload hx hb dX11_grant_103 (lv_at hl 6 rfl) ?_
                  refine cQv (rV (As := [_, _, _]) ⟨hx, hb, hml, hown, hts⟩ hw (k_X11_sets l o1_11 a1_11 hn (ixm a 7) (by omega)) (cv_X11_sets hts tw_975 rfl rfl ⟨Nat.le_of_ble_eq_true rfl, Nat.le_of_ble_eq_true rfl⟩) (by decide) o1_11 rfl rfl hl.1 rfl (by first | exact Nat.le_of_ble_eq_true rfl | decide) dX11_grant_105 ⟨Nat.zero_le _, Nat.zero_le _⟩) hw hS (fun w12 H locs hp105 hw hS => ?_)
                  have o1_12 : w12 32 = .inr (9, [.ref (gad G 33), .ref (gad G 34), .ref (gad G 35), .int (nI n), .int (nI n1), .int z, .int hd, .int sd, .ref (gad G 36), .ref (gad G 37), .int (nI rn), .ref (gad G 38), .int (nI tn), .int fr, .int tto, .int tk, .int wo, .ref (gad G 39), .ref (gad G 40), .ref (gad G 41), .ref (gad G 42), .ref (gad G 43), .ref (gad G 44), .int (nI n2), .int (nI qn), .int iz, .int (bi im)]) := by rw [hp105]; exact (vu_e (by decide) o1_11)
                  have a1_12 : w12 33 = .inl (gI G, 132, .inl (upd (upd (upd (upd f (a * 11 + 4) (h)) (a * 11 + 5) (t)) (a * 11 + 6) (lo)) (a * 11 + 7) (hi))) := by rw [hp105]; exact vu_s
                  refine lv_iload hx hb dX11_grant_108 (lv_at hl 0 rfl) ?_
                  exact re_Q hx hb hr hlocks (rfl) hw hS dX11_grant_110 (Or.inr ⟨a, ha, rfl, by simp [gOK, hnd, c5, c14, c41, c53, c62], rfl, by rw [hp105, hp96, hp87, hp80, up_up, up_up, up_up]; rfl⟩)
                · refine lv_bipush (v := (-2)) hx hb dX11_grant_65 (by decide) ?_
                  exact re_Q hx hb hr hlocks (rfl) hw hS dX11_grant_67 (Or.inl ⟨by simp [gOK, c5, c14, c41, c53, c62, hnd], rfl, rfl⟩)
          · skip
            refine lv_iconst (v := 1) hx hb dX11_grant_32 (by decide) ?_
            refine lv_goto (tgt := 37) hx hb dX11_grant_33 (by decide) ?_
            have hnd : ndT h = true := by simp [ndT, c19, c24, c29]
            refine lv_iload_n hx hb dX11_grant_37 rfl (lv_at hl 3 rfl) ?_
            refine cSe (rST (As := [_, _]) ⟨hx, hb, hml, hown, hts⟩ (k_X11_isTrait_t l ) (cv_X11_isTrait hts tw_990 rfl rfl ⟨Nat.le_of_ble_eq_true rfl, Nat.le_of_ble_eq_true rfl⟩) rfl hl.1 rfl (by first | exact Nat.le_of_ble_eq_true rfl | decide) dX11_grant_38 ⟨Nat.zero_le _, Nat.zero_le _⟩) ?_
            refine zb_eq (tgt := 65) hx hb dX11_grant_41 (by decide) (fun c41 => ?_) (fun c41 => ?_)
            · refine lv_bipush (v := (-2)) hx hb dX11_grant_65 (by decide) ?_
              exact re_Q hx hb hr hlocks (rfl) hw hS dX11_grant_67 (Or.inl ⟨by simp [gOK, c5, c14, c41, hnd], rfl, rfl⟩)
            · refine lv_iload hx hb dX11_grant_44 (lv_at hl 4 rfl) ?_
              refine lv_iconst (v := 0) hx hb dX11_grant_46 (by decide) ?_
              refine lv_sipush (v := 999) hx hb dX11_grant_47 (by decide) ?_
              refine cSe (rST (As := [_, _, _]) ⟨hx, hb, hml, hown, hts⟩ (k_X11_in l ) (cv_X11_in hts tw_987 rfl rfl ⟨Nat.le_of_ble_eq_true rfl, Nat.le_of_ble_eq_true rfl⟩) rfl hl.1 rfl (by first | exact Nat.le_of_ble_eq_true rfl | decide) dX11_grant_50 ⟨Nat.zero_le _, Nat.zero_le _⟩) ?_
              refine zb_eq (tgt := 65) hx hb dX11_grant_53 (by decide) (fun c53 => ?_) (fun c53 => ?_)
              · refine lv_bipush (v := (-2)) hx hb dX11_grant_65 (by decide) ?_
                exact re_Q hx hb hr hlocks (rfl) hw hS dX11_grant_67 (Or.inl ⟨by simp [gOK, c5, c14, c41, c53, hnd], rfl, rfl⟩)
              · refine lv_iload_n hx hb dX11_grant_56 rfl (lv_at hl 2 rfl) ?_
                refine lv_iload hx hb dX11_grant_57 (lv_at hl 5 rfl) ?_
                refine cSe (rST (As := [_, _]) ⟨hx, hb, hml, hown, hts⟩ (k_X11_isLess_g l ) (cv_X11_isLess hts tw_1001 rfl rfl ⟨Nat.le_of_ble_eq_true rfl, Nat.le_of_ble_eq_true rfl⟩) rfl hl.1 rfl (by first | exact Nat.le_of_ble_eq_true rfl | decide) dX11_grant_59 ⟨Nat.zero_le _, Nat.zero_le _⟩) ?_
                refine zb_ne (tgt := 68) hx hb dX11_grant_62 (by decide) (fun c62 => ?_) (fun c62 => ?_)
                · obtain ⟨a, ha, rfl⟩ := hasN_t hn c5
                  refine lv_aload_n hx hb dX11_grant_68 rfl (lv_at hl 0 rfl) ?_
                  refine lv_iload_n hx hb dX11_grant_69 rfl (lv_at hl 1 rfl) ?_
                  refine lv_iconst (v := 4) hx hb dX11_grant_70 (by decide) ?_
                  refine cSe (rV (As := [_, _]) ⟨hx, hb, hml, hown, hts⟩ hw (k_X11_is l o1 a1 hn (ixm a 4) (by omega)) (cv_X11_is hts tw_993 rfl rfl ⟨Nat.le_of_ble_eq_true rfl, Nat.le_of_ble_eq_true rfl⟩) (by decide) o1 rfl rfl hl.1 rfl (by first | exact Nat.le_of_ble_eq_true rfl | decide) dX11_grant_71 ⟨Nat.zero_le _, Nat.zero_le _⟩) ?_
                  refine lv_istore (lv' := [(6, _), (0, _), (1, _), (2, _), (3, _), (4, _), (5, _)]) hx hb dX11_grant_74 hl (by decide) rfl (fun ls hl => ?_)
                  refine lv_aload_n hx hb dX11_grant_76 rfl (lv_at hl 1 rfl) ?_
                  refine lv_iload_n hx hb dX11_grant_77 rfl (lv_at hl 2 rfl) ?_
                  refine lv_iconst (v := 4) hx hb dX11_grant_78 (by decide) ?_
                  refine lv_iload_n hx hb dX11_grant_79 rfl (lv_at hl 3 rfl) ?_
                  refine cQv (rV (As := [_, _, _]) ⟨hx, hb, hml, hown, hts⟩ hw (k_X11_sets l o1 a1 hn (ixm a 4) (by omega)) (cv_X11_sets hts tw_975 rfl rfl ⟨Nat.le_of_ble_eq_true rfl, Nat.le_of_ble_eq_true rfl⟩) (by decide) o1 rfl rfl hl.1 rfl (by first | exact Nat.le_of_ble_eq_true rfl | decide) dX11_grant_80 ⟨Nat.zero_le _, Nat.zero_le _⟩) hw hS (fun w13 H locs hp80 hw hS => ?_)
                  have o1_13 : w13 32 = .inr (9, [.ref (gad G 33), .ref (gad G 34), .ref (gad G 35), .int (nI n), .int (nI n1), .int z, .int hd, .int sd, .ref (gad G 36), .ref (gad G 37), .int (nI rn), .ref (gad G 38), .int (nI tn), .int fr, .int tto, .int tk, .int wo, .ref (gad G 39), .ref (gad G 40), .ref (gad G 41), .ref (gad G 42), .ref (gad G 43), .ref (gad G 44), .int (nI n2), .int (nI qn), .int iz, .int (bi im)]) := by rw [hp80]; exact (vu_e (by decide) o1)
                  have a1_13 : w13 33 = .inl (gI G, 132, .inl (upd f (a * 11 + 4) (h))) := by rw [hp80]; exact vu_s
                  refine lv_aload_n hx hb dX11_grant_83 rfl (lv_at hl 1 rfl) ?_
                  refine lv_iload_n hx hb dX11_grant_84 rfl (lv_at hl 2 rfl) ?_
                  refine lv_iconst (v := 5) hx hb dX11_grant_85 (by decide) ?_
                  refine lv_iload_n hx hb dX11_grant_86 rfl (lv_at hl 4 rfl) ?_
                  refine cQv (rV (As := [_, _, _]) ⟨hx, hb, hml, hown, hts⟩ hw (k_X11_sets l o1_13 a1_13 hn (ixm a 5) (by omega)) (cv_X11_sets hts tw_975 rfl rfl ⟨Nat.le_of_ble_eq_true rfl, Nat.le_of_ble_eq_true rfl⟩) (by decide) o1_13 rfl rfl hl.1 rfl (by first | exact Nat.le_of_ble_eq_true rfl | decide) dX11_grant_87 ⟨Nat.zero_le _, Nat.zero_le _⟩) hw hS (fun w14 H locs hp87 hw hS => ?_)
                  have o1_14 : w14 32 = .inr (9, [.ref (gad G 33), .ref (gad G 34), .ref (gad G 35), .int (nI n), .int (nI n1), .int z, .int hd, .int sd, .ref (gad G 36), .ref (gad G 37), .int (nI rn), .ref (gad G 38), .int (nI tn), .int fr, .int tto, .int tk, .int wo, .ref (gad G 39), .ref (gad G 40), .ref (gad G 41), .ref (gad G 42), .ref (gad G 43), .ref (gad G 44), .int (nI n2), .int (nI qn), .int iz, .int (bi im)]) := by rw [hp87]; exact (vu_e (by decide) o1_13)
                  have a1_14 : w14 33 = .inl (gI G, 132, .inl (upd (upd f (a * 11 + 4) (h)) (a * 11 + 5) (t))) := by rw [hp87]; exact vu_s
                  refine lv_aload_n hx hb dX11_grant_90 rfl (lv_at hl 1 rfl) ?_
                  refine lv_iload_n hx hb dX11_grant_91 rfl (lv_at hl 2 rfl) ?_
                  refine lv_bipush (v := 6) hx hb dX11_grant_92 (by decide) ?_
                  refine lv_iload hx hb dX11_grant_94 (lv_at hl 5 rfl) ?_
                  refine cQv (rV (As := [_, _, _]) ⟨hx, hb, hml, hown, hts⟩ hw (k_X11_sets l o1_14 a1_14 hn (ixm a 6) (by omega)) (cv_X11_sets hts tw_975 rfl rfl ⟨Nat.le_of_ble_eq_true rfl, Nat.le_of_ble_eq_true rfl⟩) (by decide) o1_14 rfl rfl hl.1 rfl (by first | exact Nat.le_of_ble_eq_true rfl | decide) dX11_grant_96 ⟨Nat.zero_le _, Nat.zero_le _⟩) hw hS (fun w15 H locs hp96 hw hS => ?_)
                  have o1_15 : w15 32 = .inr (9, [.ref (gad G 33), .ref (gad G 34), .ref (gad G 35), .int (nI n), .int (nI n1), .int z, .int hd, .int sd, .ref (gad G 36), .ref (gad G 37), .int (nI rn), .ref (gad G 38), .int (nI tn), .int fr, .int tto, .int tk, .int wo, .ref (gad G 39), .ref (gad G 40), .ref (gad G 41), .ref (gad G 42), .ref (gad G 43), .ref (gad G 44), .int (nI n2), .int (nI qn), .int iz, .int (bi im)]) := by rw [hp96]; exact (vu_e (by decide) o1_14)
                  have a1_15 : w15 33 = .inl (gI G, 132, .inl (upd (upd (upd f (a * 11 + 4) (h)) (a * 11 + 5) (t)) (a * 11 + 6) (lo))) := by rw [hp96]; exact vu_s
                  refine lv_aload_n hx hb dX11_grant_99 rfl (lv_at hl 1 rfl) ?_
                  refine lv_iload_n hx hb dX11_grant_100 rfl (lv_at hl 2 rfl) ?_
                  refine lv_bipush (v := 7) hx hb dX11_grant_101 (by decide) ?_
                  refine lv_iload hx hb dX11_grant_103 (lv_at hl 6 rfl) ?_
                  refine cQv (rV (As := [_, _, _]) ⟨hx, hb, hml, hown, hts⟩ hw (k_X11_sets l o1_15 a1_15 hn (ixm a 7) (by omega)) (cv_X11_sets hts tw_975 rfl rfl ⟨Nat.le_of_ble_eq_true rfl, Nat.le_of_ble_eq_true rfl⟩) (by decide) o1_15 rfl rfl hl.1 rfl (by first | exact Nat.le_of_ble_eq_true rfl | decide) dX11_grant_105 ⟨Nat.zero_le _, Nat.zero_le _⟩) hw hS (fun w16 H locs hp105 hw hS => ?_)
                  have o1_16 : w16 32 = .inr (9, [.ref (gad G 33), .ref (gad G 34), .ref (gad G 35), .int (nI n), .int (nI n1), .int z, .int hd, .int sd, .ref (gad G 36), .ref (gad G 37), .int (nI rn), .ref (gad G 38), .int (nI tn), .int fr, .int tto, .int tk, .int wo, .ref (gad G 39), .ref (gad G 40), .ref (gad G 41), .ref (gad G 42), .ref (gad G 43), .ref (gad G 44), .int (nI n2), .int (nI qn), .int iz, .int (bi im)]) := by rw [hp105]; exact (vu_e (by decide) o1_15)
                  have a1_16 : w16 33 = .inl (gI G, 132, .inl (upd (upd (upd (upd f (a * 11 + 4) (h)) (a * 11 + 5) (t)) (a * 11 + 6) (lo)) (a * 11 + 7) (hi))) := by rw [hp105]; exact vu_s
                  refine lv_iload hx hb dX11_grant_108 (lv_at hl 0 rfl) ?_
                  exact re_Q hx hb hr hlocks (rfl) hw hS dX11_grant_110 (Or.inr ⟨a, ha, rfl, by simp [gOK, hnd, c5, c14, c41, c53, c62], rfl, by rw [hp105, hp96, hp87, hp80, up_up, up_up, up_up]; rfl⟩)
                · refine lv_bipush (v := (-2)) hx hb dX11_grant_65 (by decide) ?_
                  exact re_Q hx hb hr hlocks (rfl) hw hS dX11_grant_67 (Or.inl ⟨by simp [gOK, c5, c14, c41, c53, c62, hnd], rfl, rfl⟩)
set_option maxHeartbeats 4000000 in
set_option maxRecDepth 100000 in
theorem k_X11_span (l : Launch) {G : GT} {c : Nat → va_E} {n n1 rn tn n2 qn : Nat} {z hd sd fr tto tk wo iz : Int32} {im : Bool} (o1 : c 32 = .inr (9, [.ref (gad G 33), .ref (gad G 34), .ref (gad G 35), .int (nI n), .int (nI n1), .int z, .int hd, .int sd, .ref (gad G 36), .ref (gad G 37), .int (nI rn), .ref (gad G 38), .int (nI tn), .int fr, .int tto, .int tk, .int wo, .ref (gad G 39), .ref (gad G 40), .ref (gad G 41), .ref (gad G 42), .ref (gad G 43), .ref (gad G 44), .int (nI n2), .int (nI qn), .int iz, .int (bi im)])) {f : Nat → Int32} (a1 : c 33 = .inl (gI G, 132, .inl f)) (hn : n ≤ 12) {x a0 b0 : Int32} : Met l yX11_span (wv yX11_span cX11_span 4 (some .int)) ({ frames := 2, cells := 0, slots := 0, locals := 43 } : Room) (va_Pc [.ref (gad G 32), .int x, .int a0, .int b0] (fun U => Hw G c U U.heap)) (va_Qi (fun r (c9 : Nat → va_E) => (sOK n x a0 b0 = false ∧ r = -2 ∧ c9 = c) ∨ (∃ a, a < n ∧ x = nI a ∧ sOK n x a0 b0 = true ∧ r = 1 ∧ c9 = va_up c 33 (.inl (gI G, 132, .inl (u2 f (a * 11 + 8) a0 b0))))) (fun c9 t => Hw G c9 t t.heap) (gA G)) 0 0 (gA G) := by
  refine en (by decide +kernel) (by first | exact Nat.le_of_ble_eq_true rfl | decide) ?_
  intro p e s m below meth cd ls hx hb hr hml hown hts hlocks hnm hw hl
  have hl : lv_has ls 4 [(0, .ref (gad G 32)), (1, .int x), (2, .int a0), (3, .int b0)] := hl
  have hX : Sw G s s.heap := hw.2.2.2.2.2
  have hS : va_S (gA G) s.heap s.heap [] := va_S.rf
  obtain ⟨H, hH⟩ : ∃ wz9, wz9 = s.heap := ⟨_, rfl⟩
  obtain ⟨locs, hlocs⟩ : ∃ wz9 : List Loc, wz9 = [] := ⟨_, rfl⟩
  have hw : Hw G c s H := by rw [hH]; exact hw
  have hS : va_S (gA G) s.heap H locs := by rw [hH, hlocs]; exact hS
  suffices hgo : W p l e ({ frames := 2, cells := 0, slots := 0, locals := 43 } : Room) s m (([.ref (gad G 32), .int x, .int a0, .int b0] : List Value).toArray) below meth cd H locs 0 0 (MQ below (va_Qi (fun r (c9 : Nat → va_E) => (sOK n x a0 b0 = false ∧ r = -2 ∧ c9 = c) ∨ (∃ a, a < n ∧ x = nI a ∧ sOK n x a0 b0 = true ∧ r = 1 ∧ c9 = va_up c 33 (.inl (gI G, 132, .inl (u2 f (a * 11 + 8) a0 b0))))) (fun c9 t => Hw G c9 t t.heap) (gA G)) ([.ref (gad G 32), .int x, .int a0, .int b0] : List Value).toArray s 0 0 (gA G)) (F0 m 0 ls []) by rw [hH, hlocs] at hgo; exact hgo
  refine lv_aload_n hx hb dX11_span_0 rfl (lv_at hl 0 rfl) ?_
  refine lv_iload_n hx hb dX11_span_1 rfl (lv_at hl 1 rfl) ?_
  refine cSe (rV (As := [_]) ⟨hx, hb, hml, hown, hts⟩ hw (k_X11_isClause l o1 a1 hn) (cv_X11_isClause hts tw_983 rfl rfl ⟨Nat.le_of_ble_eq_true rfl, Nat.le_of_ble_eq_true rfl⟩) (by decide) o1 rfl rfl hl.1 rfl (by first | exact Nat.le_of_ble_eq_true rfl | decide) dX11_span_2 ⟨Nat.zero_le _, Nat.zero_le _⟩) ?_
  refine zb_eq (tgt := 30) hx hb dX11_span_5 (by decide) (fun c5 => ?_) (fun c5 => ?_)
  · refine lv_bipush (v := (-2)) hx hb dX11_span_30 (by decide) ?_
    exact re_Q hx hb hr hlocks (rfl) hw hS dX11_span_32 (Or.inl ⟨by simp [sOK, c5], rfl, rfl⟩)
  · refine lv_iload_n hx hb dX11_span_8 rfl (lv_at hl 2 rfl) ?_
    refine lv_iconst (v := 0) hx hb dX11_span_9 (by decide) ?_
    refine lv_sipush (v := 999) hx hb dX11_span_10 (by decide) ?_
    refine cSe (rST (As := [_, _, _]) ⟨hx, hb, hml, hown, hts⟩ (k_X11_in l ) (cv_X11_in hts tw_987 rfl rfl ⟨Nat.le_of_ble_eq_true rfl, Nat.le_of_ble_eq_true rfl⟩) rfl hl.1 rfl (by first | exact Nat.le_of_ble_eq_true rfl | decide) dX11_span_13 ⟨Nat.zero_le _, Nat.zero_le _⟩) ?_
    refine zb_eq (tgt := 30) hx hb dX11_span_16 (by decide) (fun c16 => ?_) (fun c16 => ?_)
    · refine lv_bipush (v := (-2)) hx hb dX11_span_30 (by decide) ?_
      exact re_Q hx hb hr hlocks (rfl) hw hS dX11_span_32 (Or.inl ⟨by simp [sOK, c5, show isDy a0 = false from c16], rfl, rfl⟩)
    · refine lv_iload_n hx hb dX11_span_19 rfl (lv_at hl 3 rfl) ?_
      refine lv_iload_n hx hb dX11_span_20 rfl (lv_at hl 2 rfl) ?_
      refine lv_sipush (v := 999) hx hb dX11_span_21 (by decide) ?_
      refine cSe (rST (As := [_, _, _]) ⟨hx, hb, hml, hown, hts⟩ (k_X11_in l ) (cv_X11_in hts tw_987 rfl rfl ⟨Nat.le_of_ble_eq_true rfl, Nat.le_of_ble_eq_true rfl⟩) rfl hl.1 rfl (by first | exact Nat.le_of_ble_eq_true rfl | decide) dX11_span_24 ⟨Nat.zero_le _, Nat.zero_le _⟩) ?_
      refine zb_ne (tgt := 33) hx hb dX11_span_27 (by decide) (fun c27 => ?_) (fun c27 => ?_)
      · obtain ⟨a, ha, rfl⟩ := hasN_t hn c5
        refine lv_aload_n hx hb dX11_span_33 rfl (lv_at hl 0 rfl) ?_
        refine lv_iload_n hx hb dX11_span_34 rfl (lv_at hl 1 rfl) ?_
        refine lv_bipush (v := 8) hx hb dX11_span_35 (by decide) ?_
        refine lv_iload_n hx hb dX11_span_37 rfl (lv_at hl 2 rfl) ?_
        refine cQv (rV (As := [_, _, _]) ⟨hx, hb, hml, hown, hts⟩ hw (k_X11_sets l o1 a1 hn (ixm a 8) (by omega)) (cv_X11_sets hts tw_975 rfl rfl ⟨Nat.le_of_ble_eq_true rfl, Nat.le_of_ble_eq_true rfl⟩) (by decide) o1 rfl rfl hl.1 rfl (by first | exact Nat.le_of_ble_eq_true rfl | decide) dX11_span_38 ⟨Nat.zero_le _, Nat.zero_le _⟩) hw hS (fun w1 H locs hp38 hw hS => ?_)
        have o1_1 : w1 32 = .inr (9, [.ref (gad G 33), .ref (gad G 34), .ref (gad G 35), .int (nI n), .int (nI n1), .int z, .int hd, .int sd, .ref (gad G 36), .ref (gad G 37), .int (nI rn), .ref (gad G 38), .int (nI tn), .int fr, .int tto, .int tk, .int wo, .ref (gad G 39), .ref (gad G 40), .ref (gad G 41), .ref (gad G 42), .ref (gad G 43), .ref (gad G 44), .int (nI n2), .int (nI qn), .int iz, .int (bi im)]) := by rw [hp38]; exact (vu_e (by decide) o1)
        have a1_1 : w1 33 = .inl (gI G, 132, .inl (upd f (a * 11 + 8) (a0))) := by rw [hp38]; exact vu_s
        refine lv_aload_n hx hb dX11_span_41 rfl (lv_at hl 0 rfl) ?_
        refine lv_iload_n hx hb dX11_span_42 rfl (lv_at hl 1 rfl) ?_
        refine lv_bipush (v := 9) hx hb dX11_span_43 (by decide) ?_
        refine lv_iload_n hx hb dX11_span_45 rfl (lv_at hl 3 rfl) ?_
        refine cQv (rV (As := [_, _, _]) ⟨hx, hb, hml, hown, hts⟩ hw (k_X11_sets l o1_1 a1_1 hn (ixm a 9) (by omega)) (cv_X11_sets hts tw_975 rfl rfl ⟨Nat.le_of_ble_eq_true rfl, Nat.le_of_ble_eq_true rfl⟩) (by decide) o1_1 rfl rfl hl.1 rfl (by first | exact Nat.le_of_ble_eq_true rfl | decide) dX11_span_46 ⟨Nat.zero_le _, Nat.zero_le _⟩) hw hS (fun w2 H locs hp46 hw hS => ?_)
        have o1_2 : w2 32 = .inr (9, [.ref (gad G 33), .ref (gad G 34), .ref (gad G 35), .int (nI n), .int (nI n1), .int z, .int hd, .int sd, .ref (gad G 36), .ref (gad G 37), .int (nI rn), .ref (gad G 38), .int (nI tn), .int fr, .int tto, .int tk, .int wo, .ref (gad G 39), .ref (gad G 40), .ref (gad G 41), .ref (gad G 42), .ref (gad G 43), .ref (gad G 44), .int (nI n2), .int (nI qn), .int iz, .int (bi im)]) := by rw [hp46]; exact (vu_e (by decide) o1_1)
        have a1_2 : w2 33 = .inl (gI G, 132, .inl (upd (upd f (a * 11 + 8) (a0)) (a * 11 + 9) (b0))) := by rw [hp46]; exact vu_s
        refine lv_iconst (v := 1) hx hb dX11_span_49 (by decide) ?_
        exact re_Q hx hb hr hlocks (rfl) hw hS dX11_span_50 (Or.inr ⟨a, ha, rfl, by rw [sp_eq c16] at c27; simp only [sOK, c5, show isDy a0 = true from c16, Bool.true_and]; exact c27, rfl, by rw [hp46, hp38, up_up]; rfl⟩)
      · refine lv_bipush (v := (-2)) hx hb dX11_span_30 (by decide) ?_
        exact re_Q hx hb hr hlocks (rfl) hw hS dX11_span_32 (Or.inl ⟨by rw [sp_eq c16] at c27; simp only [sOK, c5, show isDy a0 = true from c16, Bool.true_and]; exact c27, rfl, rfl⟩)
set_option maxHeartbeats 4000000 in
set_option maxRecDepth 100000 in
theorem k_X11_except (l : Launch) {G : GT} {c : Nat → va_E} {n n1 rn tn n2 qn : Nat} {z hd sd fr tto tk wo iz : Int32} {im : Bool} (o1 : c 32 = .inr (9, [.ref (gad G 33), .ref (gad G 34), .ref (gad G 35), .int (nI n), .int (nI n1), .int z, .int hd, .int sd, .ref (gad G 36), .ref (gad G 37), .int (nI rn), .ref (gad G 38), .int (nI tn), .int fr, .int tto, .int tk, .int wo, .ref (gad G 39), .ref (gad G 40), .ref (gad G 41), .ref (gad G 42), .ref (gad G 43), .ref (gad G 44), .int (nI n2), .int (nI qn), .int iz, .int (bi im)])) {f : Nat → Int32} (a1 : c 33 = .inl (gI G, 132, .inl f)) (hn : n ≤ 12) {x e0 : Int32} : Met l yX11_except (wv yX11_except cX11_except 4 (some .int)) ({ frames := 2, cells := 0, slots := 0, locals := 43 } : Room) (va_Pc [.ref (gad G 32), .int x, .int e0] (fun U => Hw G c U U.heap)) (va_Qi (fun r (c9 : Nat → va_E) => (eOK n x e0 = false ∧ r = -2 ∧ c9 = c) ∨ (∃ a, a < n ∧ x = nI a ∧ eOK n x e0 = true ∧ r = f (a * 11 + 10) ∧ c9 = va_up c 33 (.inl (gI G, 132, .inl (upd f (a * 11 + 10) e0))))) (fun c9 t => Hw G c9 t t.heap) (gA G)) 0 0 (gA G) := by
  refine en (by decide +kernel) (by first | exact Nat.le_of_ble_eq_true rfl | decide) ?_
  intro p e s m below meth cd ls hx hb hr hml hown hts hlocks hnm hw hl
  have hl : lv_has ls 4 [(0, .ref (gad G 32)), (1, .int x), (2, .int e0)] := hl
  have hX : Sw G s s.heap := hw.2.2.2.2.2
  have hS : va_S (gA G) s.heap s.heap [] := va_S.rf
  obtain ⟨H, hH⟩ : ∃ wz9, wz9 = s.heap := ⟨_, rfl⟩
  obtain ⟨locs, hlocs⟩ : ∃ wz9 : List Loc, wz9 = [] := ⟨_, rfl⟩
  have hw : Hw G c s H := by rw [hH]; exact hw
  have hS : va_S (gA G) s.heap H locs := by rw [hH, hlocs]; exact hS
  suffices hgo : W p l e ({ frames := 2, cells := 0, slots := 0, locals := 43 } : Room) s m (([.ref (gad G 32), .int x, .int e0] : List Value).toArray) below meth cd H locs 0 0 (MQ below (va_Qi (fun r (c9 : Nat → va_E) => (eOK n x e0 = false ∧ r = -2 ∧ c9 = c) ∨ (∃ a, a < n ∧ x = nI a ∧ eOK n x e0 = true ∧ r = f (a * 11 + 10) ∧ c9 = va_up c 33 (.inl (gI G, 132, .inl (upd f (a * 11 + 10) e0))))) (fun c9 t => Hw G c9 t t.heap) (gA G)) ([.ref (gad G 32), .int x, .int e0] : List Value).toArray s 0 0 (gA G)) (F0 m 0 ls []) by rw [hH, hlocs] at hgo; exact hgo
  refine lv_aload_n hx hb dX11_except_0 rfl (lv_at hl 0 rfl) ?_
  refine lv_iload_n hx hb dX11_except_1 rfl (lv_at hl 1 rfl) ?_
  refine cSe (rV (As := [_]) ⟨hx, hb, hml, hown, hts⟩ hw (k_X11_isClause l o1 a1 hn) (cv_X11_isClause hts tw_983 rfl rfl ⟨Nat.le_of_ble_eq_true rfl, Nat.le_of_ble_eq_true rfl⟩) (by decide) o1 rfl rfl hl.1 rfl (by first | exact Nat.le_of_ble_eq_true rfl | decide) dX11_except_2 ⟨Nat.zero_le _, Nat.zero_le _⟩) ?_
  refine zb_eq (tgt := 19) hx hb dX11_except_5 (by decide) (fun c5 => ?_) (fun c5 => ?_)
  · refine lv_bipush (v := (-2)) hx hb dX11_except_19 (by decide) ?_
    exact re_Q hx hb hr hlocks (rfl) hw hS dX11_except_21 (Or.inl ⟨by simp [eOK, c5], rfl, rfl⟩)
  · refine lv_iload_n hx hb dX11_except_8 rfl (lv_at hl 2 rfl) ?_
    refine lv_iconst (v := (-1)) hx hb dX11_except_9 (by decide) ?_
    refine lv_iload_n hx hb dX11_except_10 rfl (lv_at hl 1 rfl) ?_
    refine lv_iconst (v := 1) hx hb dX11_except_11 (by decide) ?_
    refine lv_isub hx hb dX11_except_12 ?_
    refine cSe (rST (As := [_, _, _]) ⟨hx, hb, hml, hown, hts⟩ (k_X11_in l ) (cv_X11_in hts tw_987 rfl rfl ⟨Nat.le_of_ble_eq_true rfl, Nat.le_of_ble_eq_true rfl⟩) rfl hl.1 rfl (by first | exact Nat.le_of_ble_eq_true rfl | decide) dX11_except_13 ⟨Nat.zero_le _, Nat.zero_le _⟩) ?_
    refine zb_ne (tgt := 22) hx hb dX11_except_16 (by decide) (fun c16 => ?_) (fun c16 => ?_)
    · obtain ⟨a, ha, rfl⟩ := hasN_t hn c5
      refine lv_aload_n hx hb dX11_except_22 rfl (lv_at hl 0 rfl) ?_
      refine lv_iload_n hx hb dX11_except_23 rfl (lv_at hl 1 rfl) ?_
      refine lv_bipush (v := 10) hx hb dX11_except_24 (by decide) ?_
      refine cSe (rV (As := [_, _]) ⟨hx, hb, hml, hown, hts⟩ hw (k_X11_is l o1 a1 hn (ixm a 10) (by omega)) (cv_X11_is hts tw_993 rfl rfl ⟨Nat.le_of_ble_eq_true rfl, Nat.le_of_ble_eq_true rfl⟩) (by decide) o1 rfl rfl hl.1 rfl (by first | exact Nat.le_of_ble_eq_true rfl | decide) dX11_except_26 ⟨Nat.zero_le _, Nat.zero_le _⟩) ?_
      refine lv_istore_n (lv' := [(3, _), (0, _), (1, _), (2, _)]) hx hb dX11_except_29 rfl hl (by decide) rfl (fun ls hl => ?_)
      refine lv_aload_n hx hb dX11_except_30 rfl (lv_at hl 1 rfl) ?_
      refine lv_iload_n hx hb dX11_except_31 rfl (lv_at hl 2 rfl) ?_
      refine lv_bipush (v := 10) hx hb dX11_except_32 (by decide) ?_
      refine lv_iload_n hx hb dX11_except_34 rfl (lv_at hl 3 rfl) ?_
      refine cQv (rV (As := [_, _, _]) ⟨hx, hb, hml, hown, hts⟩ hw (k_X11_sets l o1 a1 hn (ixm a 10) (by omega)) (cv_X11_sets hts tw_975 rfl rfl ⟨Nat.le_of_ble_eq_true rfl, Nat.le_of_ble_eq_true rfl⟩) (by decide) o1 rfl rfl hl.1 rfl (by first | exact Nat.le_of_ble_eq_true rfl | decide) dX11_except_35 ⟨Nat.zero_le _, Nat.zero_le _⟩) hw hS (fun w1 H locs hp35 hw hS => ?_)
      have o1_1 : w1 32 = .inr (9, [.ref (gad G 33), .ref (gad G 34), .ref (gad G 35), .int (nI n), .int (nI n1), .int z, .int hd, .int sd, .ref (gad G 36), .ref (gad G 37), .int (nI rn), .ref (gad G 38), .int (nI tn), .int fr, .int tto, .int tk, .int wo, .ref (gad G 39), .ref (gad G 40), .ref (gad G 41), .ref (gad G 42), .ref (gad G 43), .ref (gad G 44), .int (nI n2), .int (nI qn), .int iz, .int (bi im)]) := by rw [hp35]; exact (vu_e (by decide) o1)
      have a1_1 : w1 33 = .inl (gI G, 132, .inl (upd f (a * 11 + 10) (e0))) := by rw [hp35]; exact vu_s
      refine lv_iload_n hx hb dX11_except_38 rfl (lv_at hl 0 rfl) ?_
      exact re_Q hx hb hr hlocks (rfl) hw hS dX11_except_39 (Or.inr ⟨a, ha, rfl, by simp [eOK, c5, c16], rfl, hp35⟩)
    · refine lv_bipush (v := (-2)) hx hb dX11_except_19 (by decide) ?_
      exact re_Q hx hb hr hlocks (rfl) hw hS dX11_except_21 (Or.inl ⟨by simp [eOK, c5, c16], rfl, rfl⟩)
set_option maxHeartbeats 4000000 in
set_option maxRecDepth 100000 in
theorem k_X11_of (l : Launch) {G : GT} {c : Nat → va_E} {n n1 rn tn n2 qn : Nat} {z hd sd fr tto tk wo iz : Int32} {im : Bool} (o1 : c 32 = .inr (9, [.ref (gad G 33), .ref (gad G 34), .ref (gad G 35), .int (nI n), .int (nI n1), .int z, .int hd, .int sd, .ref (gad G 36), .ref (gad G 37), .int (nI rn), .ref (gad G 38), .int (nI tn), .int fr, .int tto, .int tk, .int wo, .ref (gad G 39), .ref (gad G 40), .ref (gad G 41), .ref (gad G 42), .ref (gad G 43), .ref (gad G 44), .int (nI n2), .int (nI qn), .int iz, .int (bi im)])) {f : Nat → Int32} (a1 : c 33 = .inl (gI G, 132, .inl f)) (hn : n ≤ 12) {x w : Int32} : Met l yX11_of (wv yX11_of cX11_of 3 (some .int)) ({ frames := 2, cells := 0, slots := 0, locals := 43 } : Room) (va_Pc [.ref (gad G 32), .int x, .int w] (fun U => Hw G c U U.heap)) (vp_Si (fun r => (hasN n x && wn w 0 10) = false ∧ r = -2 ∨ (∃ a q, a < n ∧ q < 11 ∧ x = nI a ∧ w = nI q ∧ r = f (a * 11 + q)))) 0 0 (fun _ => False) := by
  refine en (by decide +kernel) (by first | exact Nat.le_of_ble_eq_true rfl | decide) ?_
  intro p e s m below meth cd ls hx hb hr hml hown hts hlocks hnm hw hl
  have hl : lv_has ls 3 [(0, .ref (gad G 32)), (1, .int x), (2, .int w)] := hl
  refine lv_aload_n hx hb dX11_of_0 rfl (lv_at hl 0 rfl) ?_
  refine lv_iload_n hx hb dX11_of_1 rfl (lv_at hl 1 rfl) ?_
  refine cSe (rV (As := [_]) ⟨hx, hb, hml, hown, hts⟩ hw (k_X11_isClause l o1 a1 hn) (cv_X11_isClause hts tw_983 rfl rfl ⟨Nat.le_of_ble_eq_true rfl, Nat.le_of_ble_eq_true rfl⟩) (by decide) o1 rfl rfl hl.1 rfl (by first | exact Nat.le_of_ble_eq_true rfl | decide) dX11_of_2 ⟨Nat.zero_le _, Nat.zero_le _⟩) ?_
  refine zb_eq (tgt := 27) hx hb dX11_of_5 (by decide) (fun c5 => ?_) (fun c5 => ?_)
  · refine lv_bipush (v := (-2)) hx hb dX11_of_27 (by decide) ?_
    exact re_S hx hb hr hlocks (rfl) dX11_of_29 (Or.inl ⟨by simp [c5], rfl⟩)
  · refine lv_iload_n hx hb dX11_of_8 rfl (lv_at hl 2 rfl) ?_
    refine lv_iconst (v := 0) hx hb dX11_of_9 (by decide) ?_
    refine lv_bipush (v := 10) hx hb dX11_of_10 (by decide) ?_
    refine cSe (rST (As := [_, _, _]) ⟨hx, hb, hml, hown, hts⟩ (k_X11_in l ) (cv_X11_in hts tw_987 rfl rfl ⟨Nat.le_of_ble_eq_true rfl, Nat.le_of_ble_eq_true rfl⟩) rfl hl.1 rfl (by first | exact Nat.le_of_ble_eq_true rfl | decide) dX11_of_12 ⟨Nat.zero_le _, Nat.zero_le _⟩) ?_
    refine zb_eq (tgt := 27) hx hb dX11_of_15 (by decide) (fun c15 => ?_) (fun c15 => ?_)
    · refine lv_bipush (v := (-2)) hx hb dX11_of_27 (by decide) ?_
      exact re_S hx hb hr hlocks (rfl) dX11_of_29 (Or.inl ⟨by simp [c5, c15], rfl⟩)
    · obtain ⟨a, ha, rfl⟩ := hasN_t hn c5
      obtain ⟨q, -, hq, rfl⟩ := wn_nI (a := 0) (b := 10) (by decide) (by decide) c15
      refine lv_aload_n hx hb dX11_of_18 rfl (lv_at hl 0 rfl) ?_
      refine lv_iload_n hx hb dX11_of_19 rfl (lv_at hl 1 rfl) ?_
      refine lv_iload_n hx hb dX11_of_20 rfl (lv_at hl 2 rfl) ?_
      refine cSe (rV (As := [_, _]) ⟨hx, hb, hml, hown, hts⟩ hw (k_X11_is l o1 a1 hn (ixm a q) (by omega)) (cv_X11_is hts tw_993 rfl rfl ⟨Nat.le_of_ble_eq_true rfl, Nat.le_of_ble_eq_true rfl⟩) (by decide) o1 rfl rfl hl.1 rfl (by first | exact Nat.le_of_ble_eq_true rfl | decide) dX11_of_21 ⟨Nat.zero_le _, Nat.zero_le _⟩) ?_
      refine lv_goto (tgt := 29) hx hb dX11_of_24 (by decide) ?_
      exact re_S hx hb hr hlocks (rfl) dX11_of_29 (Or.inr ⟨a, q, ha, by omega, rfl, rfl, rfl⟩)
set_option maxHeartbeats 4000000 in
set_option maxRecDepth 100000 in
theorem k_X11_drop (l : Launch) {G : GT} {c : Nat → va_E} {n n1 rn tn n2 qn : Nat} {z hd sd fr tto tk wo iz : Int32} {im : Bool} (o1 : c 32 = .inr (9, [.ref (gad G 33), .ref (gad G 34), .ref (gad G 35), .int (nI n), .int (nI n1), .int z, .int hd, .int sd, .ref (gad G 36), .ref (gad G 37), .int (nI rn), .ref (gad G 38), .int (nI tn), .int fr, .int tto, .int tk, .int wo, .ref (gad G 39), .ref (gad G 40), .ref (gad G 41), .ref (gad G 42), .ref (gad G 43), .ref (gad G 44), .int (nI n2), .int (nI qn), .int iz, .int (bi im)])) {f : Nat → Int32} (a1 : c 33 = .inl (gI G, 132, .inl f)) (hn : n ≤ 12)  : Met l yX11_drop (wv yX11_drop cX11_drop 1 (some .int)) ({ frames := 0, cells := 0, slots := 0, locals := 0 } : Room) (va_Pc [.ref (gad G 32)] (fun U => Hw G c U U.heap)) (va_Qi (fun r (c9 : Nat → va_E) => (n = 0 ∧ r = -3 ∧ c9 = c) ∨ (0 < n ∧ r = nI (n - 1) ∧ c9 = va_up c 32 (.inr (9, [.ref (gad G 33), .ref (gad G 34), .ref (gad G 35), .int (nI (n - 1)), .int (nI n1), .int z, .int hd, .int sd, .ref (gad G 36), .ref (gad G 37), .int (nI rn), .ref (gad G 38), .int (nI tn), .int fr, .int tto, .int tk, .int wo, .ref (gad G 39), .ref (gad G 40), .ref (gad G 41), .ref (gad G 42), .ref (gad G 43), .ref (gad G 44), .int (nI n2), .int (nI qn), .int iz, .int (bi im)])))) (fun c9 t => Hw G c9 t t.heap) (gA G)) 0 0 (gA G) := by
  refine en (by decide +kernel) (by first | exact Nat.le_of_ble_eq_true rfl | decide) ?_
  intro p e s m below meth cd ls hx hb hr hml hown hts hlocks hnm hw hl
  have hl : lv_has ls 1 [(0, .ref (gad G 32))] := hl
  have hX : Sw G s s.heap := hw.2.2.2.2.2
  have hS : va_S (gA G) s.heap s.heap [] := va_S.rf
  obtain ⟨H, hH⟩ : ∃ wz9, wz9 = s.heap := ⟨_, rfl⟩
  obtain ⟨locs, hlocs⟩ : ∃ wz9 : List Loc, wz9 = [] := ⟨_, rfl⟩
  have hw : Hw G c s H := by rw [hH]; exact hw
  have hS : va_S (gA G) s.heap H locs := by rw [hH, hlocs]; exact hS
  suffices hgo : W p l e ({ frames := 0, cells := 0, slots := 0, locals := 0 } : Room) s m (([.ref (gad G 32)] : List Value).toArray) below meth cd H locs 0 0 (MQ below (va_Qi (fun r (c9 : Nat → va_E) => (n = 0 ∧ r = -3 ∧ c9 = c) ∨ (0 < n ∧ r = nI (n - 1) ∧ c9 = va_up c 32 (.inr (9, [.ref (gad G 33), .ref (gad G 34), .ref (gad G 35), .int (nI (n - 1)), .int (nI n1), .int z, .int hd, .int sd, .ref (gad G 36), .ref (gad G 37), .int (nI rn), .ref (gad G 38), .int (nI tn), .int fr, .int tto, .int tk, .int wo, .ref (gad G 39), .ref (gad G 40), .ref (gad G 41), .ref (gad G 42), .ref (gad G 43), .ref (gad G 44), .int (nI n2), .int (nI qn), .int iz, .int (bi im)])))) (fun c9 t => Hw G c9 t t.heap) (gA G)) ([.ref (gad G 32)] : List Value).toArray s 0 0 (gA G)) (F0 m 0 ls []) by rw [hH, hlocs] at hgo; exact hgo
  refine lv_aload_n hx hb dX11_drop_0 rfl (lv_at hl 0 rfl) ?_
  refine w_get (C := RX11) (T := TX11) (N := 27) 3 hx hb hts inX11 hown hw (by decide) o1 rfl (by decide) (hts _ tw_888) rfl dX11_drop_1 ?_
  refine lv_if_ne (tgt := 10) hx hb dX11_drop_4 (by decide) (fun c4 => ?_) (fun c4 => ?_)
  · have hpos : 0 < n := by rcases Nat.eq_zero_or_pos n with q | q; exact absurd (by rw [q]; rfl) c4; exact q
    refine lv_aload_n hx hb dX11_drop_10 rfl (lv_at hl 0 rfl) ?_
    refine lv_dup hx hb dX11_drop_11 rfl ?_
    refine w_get (C := RX11) (T := TX11) (N := 27) 3 hx hb hts inX11 hown hw (by decide) o1 rfl (by decide) (hts _ tw_888) rfl dX11_drop_12 ?_
    refine lv_iconst (v := 1) hx hb dX11_drop_15 (by decide) ?_
    refine lv_isub hx hb dX11_drop_16 ?_
    refine tp (y := nI (n - 1)) (ixp hpos) ?_
    refine w_put (C := RX11) (T := TX11) (N := 27) (v := .int (nI (n - 1))) 3 tyX11 hx hb hts inX11 tyX11_ok nmX11 hown hw hX hS (by decide) o1 rfl (by decide) (hts _ tw_888) rfl rfl (rfl) (rfl) (Nat.le_of_ble_eq_true rfl) dX11_drop_17 (fun H locs hw hS => ?_)
    obtain ⟨w2, ew2⟩ : ∃ wz9 : Nat → va_E, wz9 = va_up c 32 (.inr (9, [.ref (gad G 33), .ref (gad G 34), .ref (gad G 35), .int (nI (n - 1)), .int (nI n1), .int z, .int hd, .int sd, .ref (gad G 36), .ref (gad G 37), .int (nI rn), .ref (gad G 38), .int (nI tn), .int fr, .int tto, .int tk, .int wo, .ref (gad G 39), .ref (gad G 40), .ref (gad G 41), .ref (gad G 42), .ref (gad G 43), .ref (gad G 44), .int (nI n2), .int (nI qn), .int iz, .int (bi im)])) := ⟨_, rfl⟩
    have hw : Hw G w2 s H := by rw [ew2]; exact hw
    have o1_2 : w2 32 = .inr (9, [.ref (gad G 33), .ref (gad G 34), .ref (gad G 35), .int (nI (n - 1)), .int (nI n1), .int z, .int hd, .int sd, .ref (gad G 36), .ref (gad G 37), .int (nI rn), .ref (gad G 38), .int (nI tn), .int fr, .int tto, .int tk, .int wo, .ref (gad G 39), .ref (gad G 40), .ref (gad G 41), .ref (gad G 42), .ref (gad G 43), .ref (gad G 44), .int (nI n2), .int (nI qn), .int iz, .int (bi im)]) := by rw [ew2]; exact vu_s
    have a1_2 : w2 33 = .inl (gI G, 132, .inl f) := by rw [ew2]; exact vu_e (by decide) a1
    refine lv_aload_n hx hb dX11_drop_20 rfl (lv_at hl 0 rfl) ?_
    refine w_get (C := RX11) (T := TX11) (N := 27) 3 hx hb hts inX11 hown hw (by decide) o1_2 rfl (by decide) (hts _ tw_888) rfl dX11_drop_21 ?_
    exact re_Q hx hb hr hlocks (rfl) hw hS dX11_drop_24 (Or.inr ⟨hpos, rfl, ew2⟩)
  · have hz0 : n = 0 := (nI_eq (b := 0) (by omega) (by omega)).mp c4
    refine lv_bipush (v := (-3)) hx hb dX11_drop_7 (by decide) ?_
    exact re_Q hx hb hr hlocks (rfl) hw hS dX11_drop_9 (Or.inl ⟨hz0, rfl, rfl⟩)
set_option maxHeartbeats 4000000 in
set_option maxRecDepth 100000 in
theorem k_X11_profile (l : Launch) {G : GT} {c : Nat → va_E} {n n1 rn tn n2 qn : Nat} {z hd sd fr tto tk wo iz : Int32} {im : Bool} (o1 : c 32 = .inr (9, [.ref (gad G 33), .ref (gad G 34), .ref (gad G 35), .int (nI n), .int (nI n1), .int z, .int hd, .int sd, .ref (gad G 36), .ref (gad G 37), .int (nI rn), .ref (gad G 38), .int (nI tn), .int fr, .int tto, .int tk, .int wo, .ref (gad G 39), .ref (gad G 40), .ref (gad G 41), .ref (gad G 42), .ref (gad G 43), .ref (gad G 44), .int (nI n2), .int (nI qn), .int iz, .int (bi im)]))  {a b d q h : Int32} : Met l yX11_profile (wv yX11_profile cX11_profile 6 (some .int)) ({ frames := 1, cells := 0, slots := 0, locals := 22 } : Room) (va_Pc [.ref (gad G 32), .int a, .int b, .int d, .int q, .int h] (fun U => Hw G c U U.heap)) (vp_Si (fun r => r = spProfile a b d q h)) 0 0 (fun _ => False) := by
  refine en (by decide +kernel) (by first | exact Nat.le_of_ble_eq_true rfl | decide) ?_
  intro p e s m below meth cd ls hx hb hr hml hown hts hlocks hnm hw hl
  have hl : lv_has ls 6 [(0, .ref (gad G 32)), (1, .int a), (2, .int b), (3, .int d), (4, .int q), (5, .int h)] := hl
  refine lv_iload_n hx hb dX11_profile_0 rfl (lv_at hl 1 rfl) ?_
  refine lv_iconst (v := 0) hx hb dX11_profile_1 (by decide) ?_
  refine lv_bipush (v := 99) hx hb dX11_profile_2 (by decide) ?_
  refine cSe (rST (As := [_, _, _]) ⟨hx, hb, hml, hown, hts⟩ (k_X11_in l ) (cv_X11_in hts tw_987 rfl rfl ⟨Nat.le_of_ble_eq_true rfl, Nat.le_of_ble_eq_true rfl⟩) rfl hl.1 rfl (by first | exact Nat.le_of_ble_eq_true rfl | decide) dX11_profile_4 ⟨Nat.zero_le _, Nat.zero_le _⟩) ?_
  refine zb_eq (tgt := 52) hx hb dX11_profile_7 (by decide) (fun c7 => ?_) (fun c7 => ?_)
  · refine lv_bipush (v := (-2)) hx hb dX11_profile_52 (by decide) ?_
    exact re_S hx hb hr hlocks (rfl) dX11_profile_54 (by simp [spProfile, c7])
  · refine lv_iload_n hx hb dX11_profile_10 rfl (lv_at hl 2 rfl) ?_
    refine lv_iconst (v := 0) hx hb dX11_profile_11 (by decide) ?_
    refine lv_bipush (v := 99) hx hb dX11_profile_12 (by decide) ?_
    refine cSe (rST (As := [_, _, _]) ⟨hx, hb, hml, hown, hts⟩ (k_X11_in l ) (cv_X11_in hts tw_987 rfl rfl ⟨Nat.le_of_ble_eq_true rfl, Nat.le_of_ble_eq_true rfl⟩) rfl hl.1 rfl (by first | exact Nat.le_of_ble_eq_true rfl | decide) dX11_profile_14 ⟨Nat.zero_le _, Nat.zero_le _⟩) ?_
    refine zb_eq (tgt := 52) hx hb dX11_profile_17 (by decide) (fun c17 => ?_) (fun c17 => ?_)
    · refine lv_bipush (v := (-2)) hx hb dX11_profile_52 (by decide) ?_
      exact re_S hx hb hr hlocks (rfl) dX11_profile_54 (by simp [spProfile, c7, c17])
    · refine lv_iload_n hx hb dX11_profile_20 rfl (lv_at hl 3 rfl) ?_
      refine lv_iconst (v := 0) hx hb dX11_profile_21 (by decide) ?_
      refine lv_bipush (v := 9) hx hb dX11_profile_22 (by decide) ?_
      refine cSe (rST (As := [_, _, _]) ⟨hx, hb, hml, hown, hts⟩ (k_X11_in l ) (cv_X11_in hts tw_987 rfl rfl ⟨Nat.le_of_ble_eq_true rfl, Nat.le_of_ble_eq_true rfl⟩) rfl hl.1 rfl (by first | exact Nat.le_of_ble_eq_true rfl | decide) dX11_profile_24 ⟨Nat.zero_le _, Nat.zero_le _⟩) ?_
      refine zb_eq (tgt := 52) hx hb dX11_profile_27 (by decide) (fun c27 => ?_) (fun c27 => ?_)
      · refine lv_bipush (v := (-2)) hx hb dX11_profile_52 (by decide) ?_
        exact re_S hx hb hr hlocks (rfl) dX11_profile_54 (by simp [spProfile, c7, c17, c27])
      · refine lv_iload hx hb dX11_profile_30 (lv_at hl 4 rfl) ?_
        refine lv_iconst (v := 0) hx hb dX11_profile_32 (by decide) ?_
        refine lv_bipush (v := 7) hx hb dX11_profile_33 (by decide) ?_
        refine cSe (rST (As := [_, _, _]) ⟨hx, hb, hml, hown, hts⟩ (k_X11_in l ) (cv_X11_in hts tw_987 rfl rfl ⟨Nat.le_of_ble_eq_true rfl, Nat.le_of_ble_eq_true rfl⟩) rfl hl.1 rfl (by first | exact Nat.le_of_ble_eq_true rfl | decide) dX11_profile_35 ⟨Nat.zero_le _, Nat.zero_le _⟩) ?_
        refine zb_eq (tgt := 52) hx hb dX11_profile_38 (by decide) (fun c38 => ?_) (fun c38 => ?_)
        · refine lv_bipush (v := (-2)) hx hb dX11_profile_52 (by decide) ?_
          exact re_S hx hb hr hlocks (rfl) dX11_profile_54 (by simp [spProfile, c7, c17, c27, c38])
        · refine lv_iload hx hb dX11_profile_41 (lv_at hl 5 rfl) ?_
          refine lv_iconst (v := 0) hx hb dX11_profile_43 (by decide) ?_
          refine lv_bipush (v := 31) hx hb dX11_profile_44 (by decide) ?_
          refine cSe (rST (As := [_, _, _]) ⟨hx, hb, hml, hown, hts⟩ (k_X11_in l ) (cv_X11_in hts tw_987 rfl rfl ⟨Nat.le_of_ble_eq_true rfl, Nat.le_of_ble_eq_true rfl⟩) rfl hl.1 rfl (by first | exact Nat.le_of_ble_eq_true rfl | decide) dX11_profile_46 ⟨Nat.zero_le _, Nat.zero_le _⟩) ?_
          refine zb_ne (tgt := 55) hx hb dX11_profile_49 (by decide) (fun c49 => ?_) (fun c49 => ?_)
          · refine lv_iload_n hx hb dX11_profile_55 rfl (lv_at hl 1 rfl) ?_
            refine lv_bipush (v := 100) hx hb dX11_profile_56 (by decide) ?_
            refine lv_iload_n hx hb dX11_profile_58 rfl (lv_at hl 2 rfl) ?_
            refine lv_imul hx hb dX11_profile_59 ?_
            refine lv_iadd hx hb dX11_profile_60 ?_
            refine lv_sipush (v := 10000) hx hb dX11_profile_61 (by decide) ?_
            refine lv_iload_n hx hb dX11_profile_64 rfl (lv_at hl 3 rfl) ?_
            refine lv_imul hx hb dX11_profile_65 ?_
            refine lv_iadd hx hb dX11_profile_66 ?_
            refine lv_ldc (v := 100000) hx hb hown (hts _ tw_1024) dX11_profile_67 ?_
            refine lv_iload hx hb dX11_profile_69 (lv_at hl 4 rfl) ?_
            refine lv_imul hx hb dX11_profile_71 ?_
            refine lv_iadd hx hb dX11_profile_72 ?_
            refine lv_ldc (v := 800000) hx hb hown (hts _ tw_1025) dX11_profile_73 ?_
            refine lv_iload hx hb dX11_profile_75 (lv_at hl 5 rfl) ?_
            refine lv_imul hx hb dX11_profile_77 ?_
            refine lv_iadd hx hb dX11_profile_78 ?_
            exact re_S hx hb hr hlocks (rfl) dX11_profile_79 (by simp [spProfile, c7, c17, c27, c38, c49])
          · refine lv_bipush (v := (-2)) hx hb dX11_profile_52 (by decide) ?_
            exact re_S hx hb hr hlocks (rfl) dX11_profile_54 (by simp [spProfile, c7, c17, c27, c38, c49])
set_option maxHeartbeats 4000000 in
set_option maxRecDepth 100000 in
theorem k_X11_trait (l : Launch) {G : GT} {c : Nat → va_E} {n n1 rn tn n2 qn : Nat} {z hd sd fr tto tk wo iz : Int32} {im : Bool} (o1 : c 32 = .inr (9, [.ref (gad G 33), .ref (gad G 34), .ref (gad G 35), .int (nI n), .int (nI n1), .int z, .int hd, .int sd, .ref (gad G 36), .ref (gad G 37), .int (nI rn), .ref (gad G 38), .int (nI tn), .int fr, .int tto, .int tk, .int wo, .ref (gad G 39), .ref (gad G 40), .ref (gad G 41), .ref (gad G 42), .ref (gad G 43), .ref (gad G 44), .int (nI n2), .int (nI qn), .int iz, .int (bi im)]))  {a t : Int32} : Met l yX11_trait (wv yX11_trait cX11_trait 3 (some .int)) ({ frames := 2, cells := 0, slots := 0, locals := 42 } : Room) (va_Pc [.ref (gad G 32), .int a, .int t] (fun U => Hw G c U U.heap)) (vp_Si (fun r => r = spTrait a t)) 0 0 (fun _ => False) := by
  refine en (by decide +kernel) (by first | exact Nat.le_of_ble_eq_true rfl | decide) ?_
  intro p e s m below meth cd ls hx hb hr hml hown hts hlocks hnm hw hl
  have hl : lv_has ls 3 [(0, .ref (gad G 32)), (1, .int a), (2, .int t)] := hl
  refine lv_iload_n hx hb dX11_trait_0 rfl (lv_at hl 1 rfl) ?_
  refine cSe (rST (As := [_]) ⟨hx, hb, hml, hown, hts⟩ (k_X11_isProfile l ) (cv_X11_isProfile hts tw_1030 rfl rfl ⟨Nat.le_of_ble_eq_true rfl, Nat.le_of_ble_eq_true rfl⟩) rfl hl.1 rfl (by first | exact Nat.le_of_ble_eq_true rfl | decide) dX11_trait_1 ⟨Nat.zero_le _, Nat.zero_le _⟩) ?_
  refine zb_eq (tgt := 24) hx hb dX11_trait_4 (by decide) (fun c4 => ?_) (fun c4 => ?_)
  · refine lv_bipush (v := (-2)) hx hb dX11_trait_24 (by decide) ?_
    exact re_S hx hb hr hlocks (rfl) dX11_trait_26 (by simp [spTrait, c4])
  · refine lv_iload_n hx hb dX11_trait_7 rfl (lv_at hl 2 rfl) ?_
    refine lv_iconst (v := 0) hx hb dX11_trait_8 (by decide) ?_
    refine lv_iconst (v := 4) hx hb dX11_trait_9 (by decide) ?_
    refine cSe (rST (As := [_, _, _]) ⟨hx, hb, hml, hown, hts⟩ (k_X11_in l ) (cv_X11_in hts tw_987 rfl rfl ⟨Nat.le_of_ble_eq_true rfl, Nat.le_of_ble_eq_true rfl⟩) rfl hl.1 rfl (by first | exact Nat.le_of_ble_eq_true rfl | decide) dX11_trait_10 ⟨Nat.zero_le _, Nat.zero_le _⟩) ?_
    refine zb_eq (tgt := 24) hx hb dX11_trait_13 (by decide) (fun c13 => ?_) (fun c13 => ?_)
    · refine lv_bipush (v := (-2)) hx hb dX11_trait_24 (by decide) ?_
      exact re_S hx hb hr hlocks (rfl) dX11_trait_26 (by simp [spTrait, c4, c13])
    · obtain ⟨p0, hp0, rfl⟩ := isP_t c4
      refine lv_iload_n hx hb dX11_trait_16 rfl (lv_at hl 1 rfl) ?_
      refine lv_iload_n hx hb dX11_trait_17 rfl (lv_at hl 2 rfl) ?_
      refine cSe (rST (As := [_, _]) ⟨hx, hb, hml, hown, hts⟩ (k_X11_traitOf l hp0) (cv_X11_traitOf hts tw_1034 rfl rfl ⟨Nat.le_of_ble_eq_true rfl, Nat.le_of_ble_eq_true rfl⟩) rfl hl.1 rfl (by first | exact Nat.le_of_ble_eq_true rfl | decide) dX11_trait_18 ⟨Nat.zero_le _, Nat.zero_le _⟩) ?_
      refine lv_goto (tgt := 26) hx hb dX11_trait_21 (by decide) ?_
      exact re_S hx hb hr hlocks (rfl) dX11_trait_26 (by simp [spTrait, c4, c13, pN_nI hp0])
set_option maxHeartbeats 4000000 in
set_option maxRecDepth 100000 in
theorem k_X11_isOfSpan (l : Launch) {G : GT} {c : Nat → va_E} {jj nn : Nat} {ff : Nat → Int32} (hj : jj < 45) (aj : c jj = .inl (gI G, 132, .inl ff)) (hnn : nn ≤ 12) {a : Nat} {d : Int32} (ha : a < nn) : Met l yX11_isOfSpan (wv yX11_isOfSpan cX11_isOfSpan 3 (some .boolean)) ({ frames := 1, cells := 0, slots := 0, locals := 22 } : Room) (va_Pc [.ref (gad G jj), .int (nI a), .int d] (fun U => Hw G c U U.heap)) (vp_Si (fun r => r = bi (spn ff d a))) 0 0 (fun _ => False) := by
  refine en (by decide +kernel) (by first | exact Nat.le_of_ble_eq_true rfl | decide) ?_
  intro p e s m below meth cd ls hx hb hr hml hown hts hlocks hnm hw hl
  have hl : lv_has ls 3 [(0, .ref (gad G jj)), (1, .int (nI a)), (2, .int d)] := hl
  refine lv_iload_n hx hb dX11_isOfSpan_0 rfl (lv_at hl 2 rfl) ?_
  refine lv_aload_n hx hb dX11_isOfSpan_1 rfl (lv_at hl 0 rfl) ?_
  refine lv_bipush (v := 11) hx hb dX11_isOfSpan_2 (by decide) ?_
  refine lv_iload_n hx hb dX11_isOfSpan_4 rfl (lv_at hl 1 rfl) ?_
  refine lv_imul hx hb dX11_isOfSpan_5 ?_
  refine lv_bipush (v := 8) hx hb dX11_isOfSpan_6 (by decide) ?_
  refine lv_iadd hx hb dX11_isOfSpan_8 ?_
  refine w_ialdN (j := a * 11 + 8) hx hb hw hj aj (ixm a 8) (by omega) (by decide) dX11_isOfSpan_9 ?_
  refine lv_aload_n hx hb dX11_isOfSpan_10 rfl (lv_at hl 0 rfl) ?_
  refine lv_bipush (v := 11) hx hb dX11_isOfSpan_11 (by decide) ?_
  refine lv_iload_n hx hb dX11_isOfSpan_13 rfl (lv_at hl 1 rfl) ?_
  refine lv_imul hx hb dX11_isOfSpan_14 ?_
  refine lv_bipush (v := 9) hx hb dX11_isOfSpan_15 (by decide) ?_
  refine lv_iadd hx hb dX11_isOfSpan_17 ?_
  refine w_ialdN (j := a * 11 + 9) hx hb hw hj aj (ixm a 9) (by omega) (by decide) dX11_isOfSpan_18 ?_
  refine cSe (rST (As := [_, _, _]) ⟨hx, hb, hml, hown, hts⟩ (k_X11_in l ) (cv_X11_in hts tw_987 rfl rfl ⟨Nat.le_of_ble_eq_true rfl, Nat.le_of_ble_eq_true rfl⟩) rfl hl.1 rfl (by first | exact Nat.le_of_ble_eq_true rfl | decide) dX11_isOfSpan_19 ⟨Nat.zero_le _, Nat.zero_le _⟩) ?_
  exact re_S hx hb hr hlocks (bi_n _) dX11_isOfSpan_22 (rfl)
set_option maxHeartbeats 4000000 in
set_option maxRecDepth 100000 in
theorem k_X11_isSo (l : Launch) {G : GT} {c : Nat → va_E} {jj nn : Nat} {ff : Nat → Int32} (hj : jj < 45) (aj : c jj = .inl (gI G, 132, .inl ff)) (hnn : nn ≤ 12) {a p0 : Nat} (ha : a < nn) (hp0 : p0 < 25600000) (hI : cIv ff a) : Met l yX11_isSo (wv yX11_isSo cX11_isSo 7 (some .boolean)) ({ frames := 2, cells := 0, slots := 0, locals := 41 } : Room) (va_Pc [.ref (gad G jj), .int (nI a), .int (nI p0)] (fun U => Hw G c U U.heap)) (vp_Si (fun r => r = bi (tso ff p0 a))) 0 0 (fun _ => False) := by
  refine en (by decide +kernel) (by first | exact Nat.le_of_ble_eq_true rfl | decide) ?_
  intro p e s m below meth cd ls hx hb hr hml hown hts hlocks hnm hw hl
  have hl : lv_has ls 7 [(0, .ref (gad G jj)), (1, .int (nI a)), (2, .int (nI p0))] := hl
  refine lv_aload_n hx hb dX11_isSo_0 rfl (lv_at hl 0 rfl) ?_
  refine lv_bipush (v := 11) hx hb dX11_isSo_1 (by decide) ?_
  refine lv_iload_n hx hb dX11_isSo_3 rfl (lv_at hl 1 rfl) ?_
  refine lv_imul hx hb dX11_isSo_4 ?_
  refine lv_iconst (v := 2) hx hb dX11_isSo_5 (by decide) ?_
  refine lv_iadd hx hb dX11_isSo_6 ?_
  refine w_ialdN (j := a * 11 + 2) hx hb hw hj aj (ixm a 2) (by omega) (by decide) dX11_isSo_7 ?_
  refine lv_istore_n (lv' := [(3, _), (0, _), (1, _), (2, _)]) hx hb dX11_isSo_8 rfl hl (by decide) rfl (fun ls hl => ?_)
  refine lv_aload_n hx hb dX11_isSo_9 rfl (lv_at hl 1 rfl) ?_
  refine lv_bipush (v := 11) hx hb dX11_isSo_10 (by decide) ?_
  refine lv_iload_n hx hb dX11_isSo_12 rfl (lv_at hl 2 rfl) ?_
  refine lv_imul hx hb dX11_isSo_13 ?_
  refine lv_iconst (v := 3) hx hb dX11_isSo_14 (by decide) ?_
  refine lv_iadd hx hb dX11_isSo_15 ?_
  refine w_ialdN (j := a * 11 + 3) hx hb hw hj aj (ixm a 3) (by omega) (by decide) dX11_isSo_16 ?_
  refine lv_istore (lv' := [(4, _), (3, _), (0, _), (1, _), (2, _)]) hx hb dX11_isSo_17 hl (by decide) rfl (fun ls hl => ?_)
  refine lv_iload_n hx hb dX11_isSo_19 rfl (lv_at hl 4 rfl) ?_
  refine lv_aload_n hx hb dX11_isSo_20 rfl (lv_at hl 2 rfl) ?_
  refine lv_bipush (v := 11) hx hb dX11_isSo_21 (by decide) ?_
  refine lv_iload_n hx hb dX11_isSo_23 rfl (lv_at hl 3 rfl) ?_
  refine lv_imul hx hb dX11_isSo_24 ?_
  refine lv_iconst (v := 1) hx hb dX11_isSo_25 (by decide) ?_
  refine lv_iadd hx hb dX11_isSo_26 ?_
  refine w_ialdN (j := a * 11 + 1) hx hb hw hj aj (ixm a 1) (by omega) (by decide) dX11_isSo_27 ?_
  refine cSe (rST (As := [_, _]) ⟨hx, hb, hml, hown, hts⟩ (k_X11_traitOf l hp0) (cv_X11_traitOf hts tw_1034 rfl rfl ⟨Nat.le_of_ble_eq_true rfl, Nat.le_of_ble_eq_true rfl⟩) rfl hl.1 rfl (by first | exact Nat.le_of_ble_eq_true rfl | decide) dX11_isSo_28 ⟨Nat.zero_le _, Nat.zero_le _⟩) ?_
  refine lv_istore (lv' := [(5, _), (4, _), (3, _), (0, _), (1, _), (2, _)]) hx hb dX11_isSo_31 hl (by decide) rfl (fun ls hl => ?_)
  refine lv_iload_n hx hb dX11_isSo_33 rfl (lv_at hl 5 rfl) ?_
  refine lv_iconst (v := 4) hx hb dX11_isSo_34 (by decide) ?_
  refine cSe (rST (As := [_, _]) ⟨hx, hb, hml, hown, hts⟩ (k_X11_traitOf l hp0) (cv_X11_traitOf hts tw_1034 rfl rfl ⟨Nat.le_of_ble_eq_true rfl, Nat.le_of_ble_eq_true rfl⟩) rfl hl.1 rfl (by first | exact Nat.le_of_ble_eq_true rfl | decide) dX11_isSo_35 ⟨Nat.zero_le _, Nat.zero_le _⟩) ?_
  refine lv_istore (lv' := [(6, _), (5, _), (4, _), (3, _), (0, _), (1, _), (2, _)]) hx hb dX11_isSo_38 hl (by decide) rfl (fun ls hl => ?_)
  refine lv_aload_n hx hb dX11_isSo_40 rfl (lv_at hl 4 rfl) ?_
  refine lv_bipush (v := 11) hx hb dX11_isSo_41 (by decide) ?_
  refine lv_iload_n hx hb dX11_isSo_43 rfl (lv_at hl 5 rfl) ?_
  refine lv_imul hx hb dX11_isSo_44 ?_
  refine w_ialdN (j := a * 11) hx hb hw hj aj (by show nI 11 * nI a = _; rw [pk_mul, Nat.mul_comm]) (by omega) (by decide) dX11_isSo_45 ?_
  by_cases hs46 : (ff (a * 11)).toInt < 0 ∨ 4 < (ff (a * 11)).toInt
  · refine lv_tableOut (tgt := 145) hx hb dX11_isSo_46 hs46 (by decide) ?_
    refine lv_iload_n hx hb dX11_isSo_145 rfl (lv_at hl 6 rfl) ?_
    refine lv_iconst (v := 0) hx hb dX11_isSo_146 (by decide) ?_
    refine cSe (rST (As := [_, _]) ⟨hx, hb, hml, hown, hts⟩ (k_X11_traitOf l hp0) (cv_X11_traitOf hts tw_1034 rfl rfl ⟨Nat.le_of_ble_eq_true rfl, Nat.le_of_ble_eq_true rfl⟩) rfl hl.1 rfl (by first | exact Nat.le_of_ble_eq_true rfl | decide) dX11_isSo_147 ⟨Nat.zero_le _, Nat.zero_le _⟩) ?_
    refine lv_iload_n hx hb dX11_isSo_150 rfl (lv_at hl 6 rfl) ?_
    refine lv_iconst (v := 1) hx hb dX11_isSo_151 (by decide) ?_
    refine cSe (rST (As := [_, _]) ⟨hx, hb, hml, hown, hts⟩ (k_X11_traitOf l hp0) (cv_X11_traitOf hts tw_1034 rfl rfl ⟨Nat.le_of_ble_eq_true rfl, Nat.le_of_ble_eq_true rfl⟩) rfl hl.1 rfl (by first | exact Nat.le_of_ble_eq_true rfl | decide) dX11_isSo_152 ⟨Nat.zero_le _, Nat.zero_le _⟩) ?_
    refine lv_iadd hx hb dX11_isSo_155 ?_
    refine lv_iload_n hx hb dX11_isSo_156 rfl (lv_at hl 3 rfl) ?_
    refine lv_iload hx hb dX11_isSo_157 (lv_at hl 2 rfl) ?_
    refine cSe (rST (As := [_, _, _]) ⟨hx, hb, hml, hown, hts⟩ (k_X11_in l ) (cv_X11_in hts tw_987 rfl rfl ⟨Nat.le_of_ble_eq_true rfl, Nat.le_of_ble_eq_true rfl⟩) rfl hl.1 rfl (by first | exact Nat.le_of_ble_eq_true rfl | decide) dX11_isSo_159 ⟨Nat.zero_le _, Nat.zero_le _⟩) ?_
    exact re_S hx hb hr hlocks (bi_n _) dX11_isSo_162 (by have h5 := i5 hI.1 hs46; unfold tso; rw [show ff (a * 11 + 0) = 5 from h5]; rfl)
  · have hz46 : (ff (a * 11)).toInt = 0 ∨ (ff (a * 11)).toInt = 1 ∨ (ff (a * 11)).toInt = 2 ∨ (ff (a * 11)).toInt = 3 ∨ (ff (a * 11)).toInt = 4 := by omega
    rcases hz46 with hz46 | hz46 | hz46 | hz46 | hz46
    · refine lv_tableIn (off := 34) (tgt := 80) hx hb dX11_isSo_46 (by omega) (by omega) (by rw [hz46]; rfl) (by decide) ?_
      have hz46 : (ff (a * 11)) = 0 := Int32.toInt_inj.mp (hz46.trans rfl)
      refine lv_iconst (v := 1) hx hb dX11_isSo_80 (by decide) ?_
      exact re_S hx hb hr hlocks (rfl) dX11_isSo_81 (by unfold tso; rw [show ff (a * 11 + 0) = _ from hz46]; simp [bi])
    · refine lv_tableIn (off := 36) (tgt := 82) hx hb dX11_isSo_46 (by omega) (by omega) (by rw [hz46]; rfl) (by decide) ?_
      have hz46 : (ff (a * 11)) = 1 := Int32.toInt_inj.mp (hz46.trans rfl)
      refine lv_iload hx hb dX11_isSo_82 (lv_at hl 1 rfl) ?_
      refine lv_iload_n hx hb dX11_isSo_84 rfl (lv_at hl 3 rfl) ?_
      refine lv_iload hx hb dX11_isSo_85 (lv_at hl 2 rfl) ?_
      refine cSe (rST (As := [_, _, _]) ⟨hx, hb, hml, hown, hts⟩ (k_X11_in l ) (cv_X11_in hts tw_987 rfl rfl ⟨Nat.le_of_ble_eq_true rfl, Nat.le_of_ble_eq_true rfl⟩) rfl hl.1 rfl (by first | exact Nat.le_of_ble_eq_true rfl | decide) dX11_isSo_87 ⟨Nat.zero_le _, Nat.zero_le _⟩) ?_
      exact re_S hx hb hr hlocks (bi_n _) dX11_isSo_90 (by unfold tso; rw [show ff (a * 11 + 0) = _ from hz46]; simp [bi])
    · refine lv_tableIn (off := 45) (tgt := 91) hx hb dX11_isSo_46 (by omega) (by omega) (by rw [hz46]; rfl) (by decide) ?_
      have hz46 : (ff (a * 11)) = 2 := Int32.toInt_inj.mp (hz46.trans rfl)
      refine lv_iload hx hb dX11_isSo_91 (lv_at hl 1 rfl) ?_
      refine lv_iload_n hx hb dX11_isSo_93 rfl (lv_at hl 3 rfl) ?_
      refine lv_iload hx hb dX11_isSo_94 (lv_at hl 2 rfl) ?_
      refine cSe (rST (As := [_, _, _]) ⟨hx, hb, hml, hown, hts⟩ (k_X11_in l ) (cv_X11_in hts tw_987 rfl rfl ⟨Nat.le_of_ble_eq_true rfl, Nat.le_of_ble_eq_true rfl⟩) rfl hl.1 rfl (by first | exact Nat.le_of_ble_eq_true rfl | decide) dX11_isSo_96 ⟨Nat.zero_le _, Nat.zero_le _⟩) ?_
      refine zb_ne (tgt := 106) hx hb dX11_isSo_99 (by decide) (fun c99 => ?_) (fun c99 => ?_)
      · refine lv_iconst (v := 0) hx hb dX11_isSo_106 (by decide) ?_
        exact re_S hx hb hr hlocks (rfl) dX11_isSo_107 (by unfold tso; rw [show ff (a * 11 + 0) = _ from hz46]; simp [bi, c99])
      · refine lv_iconst (v := 1) hx hb dX11_isSo_102 (by decide) ?_
        refine lv_goto (tgt := 107) hx hb dX11_isSo_103 (by decide) ?_
        exact re_S hx hb hr hlocks (rfl) dX11_isSo_107 (by unfold tso; rw [show ff (a * 11 + 0) = _ from hz46]; simp [bi, c99])
    · refine lv_tableIn (off := 62) (tgt := 108) hx hb dX11_isSo_46 (by omega) (by omega) (by rw [hz46]; rfl) (by decide) ?_
      have hz46 : (ff (a * 11)) = 3 := Int32.toInt_inj.mp (hz46.trans rfl)
      refine lv_iload hx hb dX11_isSo_108 (lv_at hl 0 rfl) ?_
      refine lv_iload_n hx hb dX11_isSo_110 rfl (lv_at hl 3 rfl) ?_
      refine lv_iand hx hb dX11_isSo_111 ?_
      refine lv_iload_n hx hb dX11_isSo_112 rfl (lv_at hl 3 rfl) ?_
      refine lv_icmp_ne (tgt := 128) hx hb dX11_isSo_113 (by decide) (fun c113 => ?_) (fun c113 => ?_)
      · refine lv_iconst (v := 0) hx hb dX11_isSo_128 (by decide) ?_
        exact re_S hx hb hr hlocks (rfl) dX11_isSo_129 (by unfold tso; rw [show ff (a * 11 + 0) = _ from hz46]; simp [bi, msk3, c113])
      · refine lv_iload hx hb dX11_isSo_116 (lv_at hl 0 rfl) ?_
        refine lv_iload hx hb dX11_isSo_118 (lv_at hl 2 rfl) ?_
        refine lv_iand hx hb dX11_isSo_120 ?_
        refine lv_if_ne (tgt := 128) hx hb dX11_isSo_121 (by decide) (fun c121 => ?_) (fun c121 => ?_)
        · refine lv_iconst (v := 0) hx hb dX11_isSo_128 (by decide) ?_
          exact re_S hx hb hr hlocks (rfl) dX11_isSo_129 (by unfold tso; rw [show ff (a * 11 + 0) = _ from hz46]; simp [bi, msk3, c113, c121])
        · refine lv_iconst (v := 1) hx hb dX11_isSo_124 (by decide) ?_
          refine lv_goto (tgt := 129) hx hb dX11_isSo_125 (by decide) ?_
          exact re_S hx hb hr hlocks (rfl) dX11_isSo_129 (by unfold tso; rw [show ff (a * 11 + 0) = _ from hz46]; simp [bi, msk3, c113, c121])
    · refine lv_tableIn (off := 84) (tgt := 130) hx hb dX11_isSo_46 (by omega) (by omega) (by rw [hz46]; rfl) (by decide) ?_
      have hz46 : (ff (a * 11)) = 4 := Int32.toInt_inj.mp (hz46.trans rfl)
      refine lv_iload hx hb dX11_isSo_130 (lv_at hl 1 rfl) ?_
      refine lv_iload_n hx hb dX11_isSo_132 rfl (lv_at hl 3 rfl) ?_
      refine lv_imul hx hb dX11_isSo_133 ?_
      refine lv_iload hx hb dX11_isSo_134 (lv_at hl 2 rfl) ?_
      refine lv_icmp_lt (tgt := 143) hx hb dX11_isSo_136 (by decide) (fun c136 => ?_) (fun c136 => ?_)
      · refine lv_iconst (v := 0) hx hb dX11_isSo_143 (by decide) ?_
        exact re_S hx hb hr hlocks (rfl) dX11_isSo_144 (by unfold tso; rw [show ff (a * 11 + 0) = _ from hz46]; rw [mulc] at c136; simp [bi, c136])
      · refine lv_iconst (v := 1) hx hb dX11_isSo_139 (by decide) ?_
        refine lv_goto (tgt := 144) hx hb dX11_isSo_140 (by decide) ?_
        exact re_S hx hb hr hlocks (rfl) dX11_isSo_144 (by unfold tso; rw [show ff (a * 11 + 0) = _ from hz46]; rw [mulc] at c136; simp [bi, c136])
set_option maxHeartbeats 4000000 in
set_option maxRecDepth 100000 in
theorem k_X11_brings (l : Launch) {G : GT} {c : Nat → va_E} {jj nn : Nat} {ff : Nat → Int32} (hj : jj < 45) (aj : c jj = .inl (gI G, 132, .inl ff)) (hnn : nn ≤ 12) {a p0 : Nat} (ha : a < nn) (hp0 : p0 < 25600000) (hI : cIv ff a) : Met l yX11_brings (wv yX11_brings cX11_brings 6 (some .int)) ({ frames := 2, cells := 0, slots := 0, locals := 41 } : Room) (va_Pc [.ref (gad G jj), .int (nI a), .int (nI p0)] (fun U => Hw G c U U.heap)) (vp_Si (fun r => r = wor ff p0 a)) 0 0 (fun _ => False) := by
  refine en (by decide +kernel) (by first | exact Nat.le_of_ble_eq_true rfl | decide) ?_
  intro p e s m below meth cd ls hx hb hr hml hown hts hlocks hnm hw hl
  have hl : lv_has ls 6 [(0, .ref (gad G jj)), (1, .int (nI a)), (2, .int (nI p0))] := hl
  refine lv_aload_n hx hb dX11_brings_0 rfl (lv_at hl 0 rfl) ?_
  refine lv_bipush (v := 11) hx hb dX11_brings_1 (by decide) ?_
  refine lv_iload_n hx hb dX11_brings_3 rfl (lv_at hl 1 rfl) ?_
  refine lv_imul hx hb dX11_brings_4 ?_
  refine lv_bipush (v := 6) hx hb dX11_brings_5 (by decide) ?_
  refine lv_iadd hx hb dX11_brings_7 ?_
  refine w_ialdN (j := a * 11 + 6) hx hb hw hj aj (ixm a 6) (by omega) (by decide) dX11_brings_8 ?_
  refine lv_istore_n (lv' := [(3, _), (0, _), (1, _), (2, _)]) hx hb dX11_brings_9 rfl hl (by decide) rfl (fun ls hl => ?_)
  refine lv_aload_n hx hb dX11_brings_10 rfl (lv_at hl 1 rfl) ?_
  refine lv_bipush (v := 11) hx hb dX11_brings_11 (by decide) ?_
  refine lv_iload_n hx hb dX11_brings_13 rfl (lv_at hl 2 rfl) ?_
  refine lv_imul hx hb dX11_brings_14 ?_
  refine lv_bipush (v := 7) hx hb dX11_brings_15 (by decide) ?_
  refine lv_iadd hx hb dX11_brings_17 ?_
  refine w_ialdN (j := a * 11 + 7) hx hb hw hj aj (ixm a 7) (by omega) (by decide) dX11_brings_18 ?_
  refine lv_istore (lv' := [(4, _), (3, _), (0, _), (1, _), (2, _)]) hx hb dX11_brings_19 hl (by decide) rfl (fun ls hl => ?_)
  refine lv_iload_n hx hb dX11_brings_21 rfl (lv_at hl 4 rfl) ?_
  refine lv_aload_n hx hb dX11_brings_22 rfl (lv_at hl 2 rfl) ?_
  refine lv_bipush (v := 11) hx hb dX11_brings_23 (by decide) ?_
  refine lv_iload_n hx hb dX11_brings_25 rfl (lv_at hl 3 rfl) ?_
  refine lv_imul hx hb dX11_brings_26 ?_
  refine lv_iconst (v := 5) hx hb dX11_brings_27 (by decide) ?_
  refine lv_iadd hx hb dX11_brings_28 ?_
  refine w_ialdN (j := a * 11 + 5) hx hb hw hj aj (ixm a 5) (by omega) (by decide) dX11_brings_29 ?_
  refine cSe (rST (As := [_, _]) ⟨hx, hb, hml, hown, hts⟩ (k_X11_traitOf l hp0) (cv_X11_traitOf hts tw_1034 rfl rfl ⟨Nat.le_of_ble_eq_true rfl, Nat.le_of_ble_eq_true rfl⟩) rfl hl.1 rfl (by first | exact Nat.le_of_ble_eq_true rfl | decide) dX11_brings_30 ⟨Nat.zero_le _, Nat.zero_le _⟩) ?_
  refine lv_istore (lv' := [(5, _), (4, _), (3, _), (0, _), (1, _), (2, _)]) hx hb dX11_brings_33 hl (by decide) rfl (fun ls hl => ?_)
  refine lv_aload_n hx hb dX11_brings_35 rfl (lv_at hl 3 rfl) ?_
  refine lv_bipush (v := 11) hx hb dX11_brings_36 (by decide) ?_
  refine lv_iload_n hx hb dX11_brings_38 rfl (lv_at hl 4 rfl) ?_
  refine lv_imul hx hb dX11_brings_39 ?_
  refine lv_iconst (v := 4) hx hb dX11_brings_40 (by decide) ?_
  refine lv_iadd hx hb dX11_brings_41 ?_
  refine w_ialdN (j := a * 11 + 4) hx hb hw hj aj (ixm a 4) (by omega) (by decide) dX11_brings_42 ?_
  by_cases hs43 : (ff (a * 11 + 4)).toInt < 0 ∨ 3 < (ff (a * 11 + 4)).toInt
  · refine lv_tableOut (tgt := 105) hx hb dX11_brings_43 hs43 (by decide) ?_
    refine lv_iload_n hx hb dX11_brings_105 rfl (lv_at hl 2 rfl) ?_
    refine lv_iload hx hb dX11_brings_106 (lv_at hl 0 rfl) ?_
    refine lv_icmp_ge (tgt := 115) hx hb dX11_brings_108 (by decide) (fun c108 => ?_) (fun c108 => ?_)
    · refine lv_iload hx hb dX11_brings_115 (lv_at hl 0 rfl) ?_
      exact re_S hx hb hr hlocks (rfl) dX11_brings_117 (by have h4 := i4 hI.2.1 hs43; rw [wor, if_neg (by rw [h4]; decide), if_neg (by rw [h4]; decide), if_neg (by rw [h4]; decide), if_pos h4, ← wor_4, if_neg (Int32.not_lt.mpr c108)])
    · skip
      refine lv_iload_n hx hb dX11_brings_111 rfl (lv_at hl 2 rfl) ?_
      refine lv_goto (tgt := 117) hx hb dX11_brings_112 (by decide) ?_
      exact re_S hx hb hr hlocks (rfl) dX11_brings_117 (by have h4 := i4 hI.2.1 hs43; rw [wor, if_neg (by rw [h4]; decide), if_neg (by rw [h4]; decide), if_neg (by rw [h4]; decide), if_pos h4, ← wor_4, if_pos (Int32.not_le.mp c108)])
  · have hz43 : (ff (a * 11 + 4)).toInt = 0 ∨ (ff (a * 11 + 4)).toInt = 1 ∨ (ff (a * 11 + 4)).toInt = 2 ∨ (ff (a * 11 + 4)).toInt = 3 := by omega
    rcases hz43 with hz43 | hz43 | hz43 | hz43
    · refine lv_tableIn (off := 29) (tgt := 72) hx hb dX11_brings_43 (by omega) (by omega) (by rw [hz43]; rfl) (by decide) ?_
      have hz43 : (ff (a * 11 + 4)) = 0 := Int32.toInt_inj.mp (hz43.trans rfl)
      refine lv_iload_n hx hb dX11_brings_72 rfl (lv_at hl 2 rfl) ?_
      exact re_S hx hb hr hlocks (rfl) dX11_brings_73 (by rw [wor, if_pos hz43])
    · refine lv_tableIn (off := 31) (tgt := 74) hx hb dX11_brings_43 (by omega) (by omega) (by rw [hz43]; rfl) (by decide) ?_
      have hz43 : (ff (a * 11 + 4)) = 1 := Int32.toInt_inj.mp (hz43.trans rfl)
      have h7 := hI.2.2.2.1
      rw [if_pos hz43] at h7
      obtain ⟨b9, hb1, hb2, hb9⟩ := wn_nI (a := 1) (b := 99) (by decide) (by decide) h7
      refine lv_iload_n hx hb dX11_brings_74 rfl (lv_at hl 2 rfl) ?_
      refine lv_iload hx hb dX11_brings_75 (lv_at hl 0 rfl) ?_
      refine lv_iload hx hb dX11_brings_77 (lv_at hl 1 rfl) ?_
      refine lv_idiv hx hb dX11_brings_79 (by rw [hb9]; exact nI_ne0 (by omega) (by omega)) ?_
      refine lv_imul hx hb dX11_brings_80 ?_
      exact re_S hx hb hr hlocks (rfl) dX11_brings_81 (by rw [wor, if_neg (by rw [hz43]; decide), if_pos hz43, if_neg (by rw [hb9]; exact nI_nlt (b := 1) hb1 (by omega)), mulc])
    · refine lv_tableIn (off := 39) (tgt := 82) hx hb dX11_brings_43 (by omega) (by omega) (by rw [hz43]; rfl) (by decide) ?_
      have hz43 : (ff (a * 11 + 4)) = 2 := Int32.toInt_inj.mp (hz43.trans rfl)
      have h7 := hI.2.2.2.1
      rw [if_neg (by rw [hz43]; decide)] at h7
      have hw2 := wor_2 hI.2.2.1 h7 (tr_lt (t := ff (a * 11 + 5)) hp0)
      refine lv_iload_n hx hb dX11_brings_82 rfl (lv_at hl 2 rfl) ?_
      refine lv_iload hx hb dX11_brings_83 (lv_at hl 1 rfl) ?_
      refine lv_iload hx hb dX11_brings_85 (lv_at hl 0 rfl) ?_
      refine lv_imul hx hb dX11_brings_87 ?_
      refine lv_icmp_le (tgt := 101) hx hb dX11_brings_88 (by decide) (fun c88 => ?_) (fun c88 => ?_)
      · refine lv_iconst (v := 0) hx hb dX11_brings_101 (by decide) ?_
        exact re_S hx hb hr hlocks (rfl) dX11_brings_102 (by rw [wor, if_neg (by rw [hz43]; decide), if_neg (by rw [hz43]; decide), if_pos hz43, ← hw2, if_neg (Int32.not_lt.mpr c88)])
      · skip
        refine lv_iload_n hx hb dX11_brings_91 rfl (lv_at hl 2 rfl) ?_
        refine lv_iload hx hb dX11_brings_92 (lv_at hl 1 rfl) ?_
        refine lv_iload hx hb dX11_brings_94 (lv_at hl 0 rfl) ?_
        refine lv_imul hx hb dX11_brings_96 ?_
        refine lv_isub hx hb dX11_brings_97 ?_
        refine lv_goto (tgt := 102) hx hb dX11_brings_98 (by decide) ?_
        exact re_S hx hb hr hlocks (rfl) dX11_brings_102 (by rw [wor, if_neg (by rw [hz43]; decide), if_neg (by rw [hz43]; decide), if_pos hz43, ← hw2, if_pos (Int32.not_le.mp c88)])
    · refine lv_tableIn (off := 60) (tgt := 103) hx hb dX11_brings_43 (by omega) (by omega) (by rw [hz43]; rfl) (by decide) ?_
      have hz43 : (ff (a * 11 + 4)) = 3 := Int32.toInt_inj.mp (hz43.trans rfl)
      refine lv_iconst (v := 0) hx hb dX11_brings_103 (by decide) ?_
      exact re_S hx hb hr hlocks (rfl) dX11_brings_104 (by rw [wor, if_neg (by rw [hz43]; decide), if_neg (by rw [hz43]; decide), if_neg (by rw [hz43]; decide), if_neg (by rw [hz43]; decide)])
