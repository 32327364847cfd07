/-! LINE: at place 16, its values at place 17 -/
theorem ixp {v : Nat} (h : 1 ≤ v) : nI v - 1 = nI (v - 1) := pk_sub (a := v) (b := 1) h
theorem ixp2 {v : Nat} (h : 2 ≤ v) : nI v - 2 = nI (v - 2) := pk_sub (a := v) (b := 2) h
def lmo (g : Nat → Int32) : Nat → Nat
  | 0 => 0
  | i + 1 => if g (lmo g i) < g i then i else lmo g i
theorem lmo_lt (g : Nat → Int32) : ∀ i, 1 ≤ i → lmo g i < i
  | 0, h => absurd h (by decide)
  | 1, _ => by
    rw [lmo]
    split <;> exact Nat.zero_lt_one
  | i + 2, _ => by
    have := lmo_lt g (i + 1) (by omega)
    rw [lmo]
    split <;> omega
theorem lmo_1 (g : Nat → Int32) : lmo g 1 = 0 := by have := lmo_lt g 1 (by omega); omega
def JP (g : Nat → Int32) (v : Nat) : Bool := decide (1 ≤ v) && decide (g v ≠ g (v - 1))
def BP (g : Nat → Int32) (v : Nat) : Bool := decide (2 ≤ v) && decide (g v - g (v - 1) ≠ g (v - 1) - g (v - 2))
def chN (g : Nat → Int32) (v : Nat) : Int32 := if 0 < g (v - 1) - g v then g (v - 1) - g v else 0
def chh (g : Nat → Int32) (m : Nat) (x : Int32) : Int32 := if x < 1 then 0 else if x < nI m then chN g x.toNatClampNeg else 0
theorem chh_m1 (g : Nat → Int32) (m : Nat) : chh g m (-1) = 0 := rfl
theorem chh_nI {g : Nat → Int32} {m v : Nat} (h1 : 1 ≤ v) (h2 : v < m) (hm : m < 2 ^ 31) : chh g m (nI v) = chN g v := by
  unfold chh
  rw [if_neg (show ¬ nI v < 1 from nI_nlt (b := 1) h1 (by omega)), if_pos (nI_lt h2 hm), nI_clamp (by omega)]
def hcl (g : Nat → Int32) (m : Nat) : Nat → Int32
  | 0 => -1
  | i + 1 => if decide (1 ≤ i) && decide (chh g m (hcl g m i) < chN g i) then nI i else hcl g m i
def lvl (g : Nat → Int32) : Nat → Int32 × Int32
  | 0 => (1, 1)
  | i + 1 =>
    if i = 0 then (1, 1) else
    let row : Int32 := if JP g i then 1 else (lvl g i).2 + 1
    (if (lvl g i).1 < row then row else (lvl g i).1, row)
def ab32 (x : Int32) : Int32 := if 0 ≤ x then x else 0 - x
def far (g : Nat → Int32) : Nat → Int32
  | 0 => 0
  | i + 1 => if far g i < ab32 (g i) then ab32 (g i) else far g i
def flF (f : Nat → Int32) (n p : Nat) (d t : Int32) (g : Nat → Int32) (i : Nat) : Nat → Int32 := fun q => if q < i then ocm f n (wthN p t q) d else g q
def lsF (f : Nat → Int32) (n p : Nat) (d t : Int32) (g : Nat → Int32) (i : Nat) : Nat → Int32 := fun q => if q < i then g q - ocm f n (wthN p t q) d else g q
theorem flF_0 (f : Nat → Int32) (n p : Nat) (d t : Int32) (g : Nat → Int32) : flF f n p d t g 0 = g := by funext q; simp [flF]
theorem lsF_0 (f : Nat → Int32) (n p : Nat) (d t : Int32) (g : Nat → Int32) : lsF f n p d t g 0 = g := by funext q; simp [lsF]
theorem flF_s (f : Nat → Int32) (n p : Nat) (d t : Int32) (g : Nat → Int32) (i : Nat) : upd (flF f n p d t g i) i (ocm f n (wthN p t i) d) = flF f n p d t g (i + 1) := by
  funext q
  unfold upd flF
  by_cases h : q = i
  · subst h; rw [if_pos rfl, if_pos (by omega)]
  · rw [if_neg h]
    by_cases h2 : q < i
    · rw [if_pos h2, if_pos (by omega)]
    · rw [if_neg h2, if_neg (by omega)]
theorem lsF_s (f : Nat → Int32) (n p : Nat) (d t : Int32) (g : Nat → Int32) (i : Nat) : upd (lsF f n p d t g i) i (lsF f n p d t g i i - ocm f n (wthN p t i) d) = lsF f n p d t g (i + 1) := by
  funext q
  unfold upd lsF
  by_cases h : q = i
  · subst h; rw [if_pos rfl, if_neg (by omega), if_pos (by omega)]
  · rw [if_neg h]
    by_cases h2 : q < i
    · rw [if_pos h2, if_pos (by omega)]
    · rw [if_neg h2, if_neg (by omega)]
theorem sz_last {t : Int32} (ht : t = 0 ∨ t = 1 ∨ t = 2 ∨ t = 3) : tlast t + 1 = nI (szN t) := by rcases ht with rfl | rfl | rfl | rfl <;> rfl
theorem sz_le {t : Int32} (ht : t = 0 ∨ t = 1 ∨ t = 2 ∨ t = 3) : szN t ≤ 100 ∧ 1 ≤ szN t := by rcases ht with rfl | rfl | rfl | rfl <;> decide
theorem inc1' (x : Int32) : x + Int32.ofInt 1 = x + 1 := rfl
theorem cnt_s {P : Nat → Bool} {i : Nat} (h : P i = true) : nI (cntU P i) + 1 = nI (cntU P (i + 1)) := by rw [cntU, if_pos h, nI_1]
theorem cnt_n {P : Nat → Bool} {i : Nat} (h : P i = false) : cntU P (i + 1) = cntU P i := by rw [cntU, h]; rfl

set_option maxHeartbeats 4000000 in
set_option maxRecDepth 100000 in
theorem k_X3_size (l : Launch) {G : GT} {c : Nat → va_E} {m0 : Nat} {g : Nat → Int32} (l1 : c 16 = .inr (2, [.ref (gad G 17), .int (nI m0)])) (l2 : c 17 = .inl (gI G, 100, .inl g)) (hm : m0 ≤ 100) : Met l yX3_size (wv yX3_size cX3_size 1 (some .int)) ({ frames := 0, cells := 0, slots := 0, locals := 0 } : Room) (va_Pc [.ref (gad G 16)] (fun U => Hw G c U U.heap)) (vp_Si (fun r => r = nI m0)) 0 0 (fun _ => False) := by
  refine en (by decide +kernel) (by first | exact Nat.le_of_ble_eq_true rfl | decide) ?_
  intro p e s m below meth cd ls hx hb hr hml hown hts hlocks hnm hw hl
  have hl : lv_has ls 1 [(0, .ref (gad G 16))] := hl
  refine lv_aload_n hx hb dX3_size_0 rfl (lv_at hl 0 rfl) ?_
  refine w_get (C := RX3) (T := TX3) (N := 2) 1 hx hb hts inX3 hown hw (by decide) l1 rfl (by decide) (hts _ tw_129) rfl dX3_size_1 ?_
  exact re_S hx hb hr hlocks (rfl) dX3_size_4 (rfl)
set_option maxHeartbeats 4000000 in
set_option maxRecDepth 100000 in
theorem k_X3_at (l : Launch) {G : GT} {c : Nat → va_E} {m0 : Nat} {g : Nat → Int32} (l1 : c 16 = .inr (2, [.ref (gad G 17), .int (nI m0)])) (l2 : c 17 = .inl (gI G, 100, .inl g)) (hm : m0 ≤ 100) {v : Nat} (hv : v < 100) : Met l yX3_at (wv yX3_at cX3_at 2 (some .int)) ({ frames := 0, cells := 0, slots := 0, locals := 0 } : Room) (va_Pc [.ref (gad G 16), .int (nI v)] (fun U => Hw G c U U.heap)) (vp_Si (fun r => r = g v)) 0 0 (fun _ => False) := by
  refine en (by decide +kernel) (by first | exact Nat.le_of_ble_eq_true rfl | decide) ?_
  intro p e s m below meth cd ls hx hb hr hml hown hts hlocks hnm hw hl
  have hl : lv_has ls 2 [(0, .ref (gad G 16)), (1, .int (nI v))] := hl
  refine lv_aload_n hx hb dX3_at_0 rfl (lv_at hl 0 rfl) ?_
  refine w_get (C := RX3) (T := TX3) (N := 2) 0 hx hb hts inX3 hown hw (by decide) l1 rfl (by decide) (hts _ tw_128) rfl dX3_at_1 ?_
  refine lv_iload_n hx hb dX3_at_4 rfl (lv_at hl 1 rfl) ?_
  refine w_ialdN (j := v) hx hb hw (by decide) l2 (rfl) (hv) (by decide) dX3_at_5 ?_
  exact re_S hx hb hr hlocks (rfl) dX3_at_6 (rfl)
set_option maxHeartbeats 4000000 in
set_option maxRecDepth 100000 in
theorem k_X3_isJump (l : Launch) {G : GT} {c : Nat → va_E} {m0 : Nat} {g : Nat → Int32} (l1 : c 16 = .inr (2, [.ref (gad G 17), .int (nI m0)])) (l2 : c 17 = .inl (gI G, 100, .inl g)) (hm : m0 ≤ 100) {v : Nat} (hv : v < 100) (hv1 : 1 ≤ v) : Met l yX3_isJump (wv yX3_isJump cX3_isJump 2 (some .boolean)) ({ frames := 0, cells := 0, slots := 0, locals := 0 } : Room) (va_Pc [.ref (gad G 16), .int (nI v)] (fun U => Hw G c U U.heap)) (vp_Si (fun r => r = bi (JP g v))) 0 0 (fun _ => False) := by
  refine en (by decide +kernel) (by first | exact Nat.le_of_ble_eq_true rfl | decide) ?_
  intro p e s m below meth cd ls hx hb hr hml hown hts hlocks hnm hw hl
  have hl : lv_has ls 2 [(0, .ref (gad G 16)), (1, .int (nI v))] := hl
  refine lv_aload_n hx hb dX3_isJump_0 rfl (lv_at hl 0 rfl) ?_
  refine w_get (C := RX3) (T := TX3) (N := 2) 0 hx hb hts inX3 hown hw (by decide) l1 rfl (by decide) (hts _ tw_128) rfl dX3_isJump_1 ?_
  refine lv_iload_n hx hb dX3_isJump_4 rfl (lv_at hl 1 rfl) ?_
  refine w_ialdN (j := v) hx hb hw (by decide) l2 (rfl) (hv) (by decide) dX3_isJump_5 ?_
  refine lv_aload_n hx hb dX3_isJump_6 rfl (lv_at hl 0 rfl) ?_
  refine w_get (C := RX3) (T := TX3) (N := 2) 0 hx hb hts inX3 hown hw (by decide) l1 rfl (by decide) (hts _ tw_128) rfl dX3_isJump_7 ?_
  refine lv_iload_n hx hb dX3_isJump_10 rfl (lv_at hl 1 rfl) ?_
  refine lv_iconst (v := 1) hx hb dX3_isJump_11 (by decide) ?_
  refine lv_isub hx hb dX3_isJump_12 ?_
  refine w_ialdN (j := v - 1) hx hb hw (by decide) l2 (ixp hv1) (by omega) (by decide) dX3_isJump_13 ?_
  refine lv_icmp_eq (tgt := 21) hx hb dX3_isJump_14 (by decide) (fun c14 => ?_) (fun c14 => ?_)
  · refine lv_iconst (v := 0) hx hb dX3_isJump_21 (by decide) ?_
    exact re_S hx hb hr hlocks (rfl) dX3_isJump_22 (by simp [bi, JP, hv1, c14])
  · refine lv_iconst (v := 1) hx hb dX3_isJump_17 (by decide) ?_
    refine lv_goto (tgt := 22) hx hb dX3_isJump_18 (by decide) ?_
    exact re_S hx hb hr hlocks (rfl) dX3_isJump_22 (by simp [bi, JP, hv1, c14])
set_option maxHeartbeats 4000000 in
set_option maxRecDepth 100000 in
theorem k_X3_isBend (l : Launch) {G : GT} {c : Nat → va_E} {m0 : Nat} {g : Nat → Int32} (l1 : c 16 = .inr (2, [.ref (gad G 17), .int (nI m0)])) (l2 : c 17 = .inl (gI G, 100, .inl g)) (hm : m0 ≤ 100) {v : Nat} (hv : v < 100) (hv1 : 2 ≤ v) : Met l yX3_isBend (wv yX3_isBend cX3_isBend 2 (some .boolean)) ({ frames := 0, cells := 0, slots := 0, locals := 0 } : Room) (va_Pc [.ref (gad G 16), .int (nI v)] (fun U => Hw G c U U.heap)) (vp_Si (fun r => r = bi (BP g v))) 0 0 (fun _ => False) := by
  refine en (by decide +kernel) (by first | exact Nat.le_of_ble_eq_true rfl | decide) ?_
  intro p e s m below meth cd ls hx hb hr hml hown hts hlocks hnm hw hl
  have hl : lv_has ls 2 [(0, .ref (gad G 16)), (1, .int (nI v))] := hl
  refine lv_aload_n hx hb dX3_isBend_0 rfl (lv_at hl 0 rfl) ?_
  refine w_get (C := RX3) (T := TX3) (N := 2) 0 hx hb hts inX3 hown hw (by decide) l1 rfl (by decide) (hts _ tw_128) rfl dX3_isBend_1 ?_
  refine lv_iload_n hx hb dX3_isBend_4 rfl (lv_at hl 1 rfl) ?_
  refine w_ialdN (j := v) hx hb hw (by decide) l2 (rfl) (hv) (by decide) dX3_isBend_5 ?_
  refine lv_aload_n hx hb dX3_isBend_6 rfl (lv_at hl 0 rfl) ?_
  refine w_get (C := RX3) (T := TX3) (N := 2) 0 hx hb hts inX3 hown hw (by decide) l1 rfl (by decide) (hts _ tw_128) rfl dX3_isBend_7 ?_
  refine lv_iload_n hx hb dX3_isBend_10 rfl (lv_at hl 1 rfl) ?_
  refine lv_iconst (v := 1) hx hb dX3_isBend_11 (by decide) ?_
  refine lv_isub hx hb dX3_isBend_12 ?_
  refine w_ialdN (j := v - 1) hx hb hw (by decide) l2 (ixp (by omega)) (by omega) (by decide) dX3_isBend_13 ?_
  refine lv_isub hx hb dX3_isBend_14 ?_
  refine lv_aload_n hx hb dX3_isBend_15 rfl (lv_at hl 0 rfl) ?_
  refine w_get (C := RX3) (T := TX3) (N := 2) 0 hx hb hts inX3 hown hw (by decide) l1 rfl (by decide) (hts _ tw_128) rfl dX3_isBend_16 ?_
  refine lv_iload_n hx hb dX3_isBend_19 rfl (lv_at hl 1 rfl) ?_
  refine lv_iconst (v := 1) hx hb dX3_isBend_20 (by decide) ?_
  refine lv_isub hx hb dX3_isBend_21 ?_
  refine w_ialdN (j := v - 1) hx hb hw (by decide) l2 (ixp (by omega)) (by omega) (by decide) dX3_isBend_22 ?_
  refine lv_aload_n hx hb dX3_isBend_23 rfl (lv_at hl 0 rfl) ?_
  refine w_get (C := RX3) (T := TX3) (N := 2) 0 hx hb hts inX3 hown hw (by decide) l1 rfl (by decide) (hts _ tw_128) rfl dX3_isBend_24 ?_
  refine lv_iload_n hx hb dX3_isBend_27 rfl (lv_at hl 1 rfl) ?_
  refine lv_iconst (v := 2) hx hb dX3_isBend_28 (by decide) ?_
  refine lv_isub hx hb dX3_isBend_29 ?_
  refine w_ialdN (j := v - 2) hx hb hw (by decide) l2 (ixp2 hv1) (by omega) (by decide) dX3_isBend_30 ?_
  refine lv_isub hx hb dX3_isBend_31 ?_
  refine lv_icmp_eq (tgt := 39) hx hb dX3_isBend_32 (by decide) (fun c32 => ?_) (fun c32 => ?_)
  · refine lv_iconst (v := 0) hx hb dX3_isBend_39 (by decide) ?_
    exact re_S hx hb hr hlocks (rfl) dX3_isBend_40 (by simp [bi, BP, hv1, c32])
  · refine lv_iconst (v := 1) hx hb dX3_isBend_35 (by decide) ?_
    refine lv_goto (tgt := 40) hx hb dX3_isBend_36 (by decide) ?_
    exact re_S hx hb hr hlocks (rfl) dX3_isBend_40 (by simp [bi, BP, hv1, c32])
set_option maxHeartbeats 4000000 in
set_option maxRecDepth 100000 in
theorem k_X3_leastOfMost (l : Launch) {G : GT} {c : Nat → va_E} {m0 : Nat} {g : Nat → Int32} (l1 : c 16 = .inr (2, [.ref (gad G 17), .int (nI m0)])) (l2 : c 17 = .inl (gI G, 100, .inl g)) (hm : m0 ≤ 100) (hm1 : 1 ≤ m0) : Met l yX3_leastOfMost (wv yX3_leastOfMost cX3_leastOfMost 3 (some .int)) ({ frames := 0, cells := 0, slots := 0, locals := 0 } : Room) (va_Pc [.ref (gad G 16)] (fun U => Hw G c U U.heap)) (vp_Si (fun r => r = nI (lmo g m0))) 0 0 (fun _ => False) := by
  refine en (by decide +kernel) (by first | exact Nat.le_of_ble_eq_true rfl | decide) ?_
  intro p e s m below meth cd ls hx hb hr hml hown hts hlocks hnm hw hl
  have hl : lv_has ls 3 [(0, .ref (gad G 16))] := hl
  refine lv_iconst (v := 0) hx hb dX3_leastOfMost_0 (by decide) ?_
  refine lv_istore_n (lv' := [(1, _), (0, _)]) hx hb dX3_leastOfMost_1 rfl hl (by decide) rfl (fun ls hl => ?_)
  refine lv_iconst (v := 1) hx hb dX3_leastOfMost_2 (by decide) ?_
  refine lv_istore_n (lv' := [(2, _), (1, _), (0, _)]) hx hb dX3_leastOfMost_3 rfl hl (by decide) rfl (fun ls hl => ?_)
  have L4 : ∀ (N : Nat) (i : Nat), (i + N = m0) → (1 ≤ i) → ∀ ls : Array Slot, lv_has ls 3 [(2, .int (nI i)), (1, .int (nI (lmo g i))), (0, .ref (gad G 16))] → W p l e ({ frames := 0, cells := 0, slots := 0, locals := 0 } : Room) s m (([.ref (gad G 16)] : List Value).toArray) below meth cd s.heap [] 0 0 (MQ below (vp_Si (fun r => r = nI (lmo g m0))) ([.ref (gad G 16)] : List Value).toArray s 0 0 (fun _ => False)) (F0 m 4 ls []) := by
    intro N
    induction N with
    | zero =>
      intro i  hN hi ls hl
      obtain rfl : i = m0 := by omega
      refine lv_iload_n hx hb dX3_leastOfMost_4 rfl (lv_at hl 0 rfl) ?_
      refine lv_aload_n hx hb dX3_leastOfMost_5 rfl (lv_at hl 2 rfl) ?_
      refine w_get (C := RX3) (T := TX3) (N := 2) 1 hx hb hts inX3 hown hw (by decide) l1 rfl (by decide) (hts _ tw_129) rfl dX3_leastOfMost_6 ?_
      refine lv_icmp_ge (tgt := 35) hx hb dX3_leastOfMost_9 (by decide) (fun c9 => ?_) (fun q => absurd (Int32.le_refl _) q)
      refine lv_iload_n hx hb dX3_leastOfMost_35 rfl (lv_at hl 1 rfl) ?_
      exact re_S hx hb hr hlocks (rfl) dX3_leastOfMost_36 (rfl)
    | succ N ih =>
      intro i  hN hi ls hl
      refine lv_iload_n hx hb dX3_leastOfMost_4 rfl (lv_at hl 0 rfl) ?_
      refine lv_aload_n hx hb dX3_leastOfMost_5 rfl (lv_at hl 2 rfl) ?_
      refine w_get (C := RX3) (T := TX3) (N := 2) 1 hx hb hts inX3 hown hw (by decide) l1 rfl (by decide) (hts _ tw_129) rfl dX3_leastOfMost_6 ?_
      refine lv_icmp_ge (tgt := 35) hx hb dX3_leastOfMost_9 (by decide) (fun q => absurd q (nI_ge (by omega) (by omega))) (fun c9 => ?_)
      refine lv_aload_n hx hb dX3_leastOfMost_12 rfl (lv_at hl 2 rfl) ?_
      refine w_get (C := RX3) (T := TX3) (N := 2) 0 hx hb hts inX3 hown hw (by decide) l1 rfl (by decide) (hts _ tw_128) rfl dX3_leastOfMost_13 ?_
      refine lv_iload_n hx hb dX3_leastOfMost_16 rfl (lv_at hl 0 rfl) ?_
      refine w_ialdN (j := i) hx hb hw (by decide) l2 (rfl) (by omega) (by decide) dX3_leastOfMost_17 ?_
      refine lv_aload_n hx hb dX3_leastOfMost_18 rfl (lv_at hl 2 rfl) ?_
      refine w_get (C := RX3) (T := TX3) (N := 2) 0 hx hb hts inX3 hown hw (by decide) l1 rfl (by decide) (hts _ tw_128) rfl dX3_leastOfMost_19 ?_
      refine lv_iload_n hx hb dX3_leastOfMost_22 rfl (lv_at hl 1 rfl) ?_
      refine w_ialdN (j := lmo g i) hx hb hw (by decide) l2 (rfl) (by have := lmo_lt g i hi; omega) (by decide) dX3_leastOfMost_23 ?_
      refine lv_icmp_le (tgt := 29) hx hb dX3_leastOfMost_24 (by decide) (fun c24 => ?_) (fun c24 => ?_)
      · refine lv_iinc (v := nI (i + 1)) (lv' := [(2, _), (1, _), (0, _)]) hx hb dX3_leastOfMost_29 hl (k := 0) rfl (inc1 i) (by decide) rfl (fun ls hl => ?_)
        refine lv_goto (tgt := 4) hx hb dX3_leastOfMost_32 (by decide) ?_
        have e9 : lmo g (i + 1) = lmo g i := by rw [lmo, if_neg (Int32.not_lt.mpr c24)]
        exact ih (i + 1) (by omega) (by omega) ls (by rw [e9]; exact lv_sub hl [0, 1, 2] rfl)
      · skip
        refine lv_iload_n hx hb dX3_leastOfMost_27 rfl (lv_at hl 0 rfl) ?_
        refine lv_istore_n (lv' := [(1, _), (2, _), (0, _)]) hx hb dX3_leastOfMost_28 rfl hl (by decide) rfl (fun ls hl => ?_)
        refine lv_iinc (v := nI (i + 1)) (lv' := [(2, _), (1, _), (0, _)]) hx hb dX3_leastOfMost_29 hl (k := 1) rfl (inc1 i) (by decide) rfl (fun ls hl => ?_)
        refine lv_goto (tgt := 4) hx hb dX3_leastOfMost_32 (by decide) ?_
        have e9 : lmo g (i + 1) = i := by rw [lmo, if_pos (Int32.not_le.mp c24)]
        exact ih (i + 1) (by omega) (by omega) ls (by rw [e9]; exact lv_sub hl [0, 1, 2] rfl)
  exact L4 (m0 - 1) 1 (by omega) (by omega) ls (by rw [lmo_1]; exact (lv_sub hl [0, 1, 2] rfl))
set_option maxHeartbeats 4000000 in
set_option maxRecDepth 100000 in
theorem k_X3_leastReaching (l : Launch) {G : GT} {c : Nat → va_E} {m0 : Nat} {g : Nat → Int32} (l1 : c 16 = .inr (2, [.ref (gad G 17), .int (nI m0)])) (l2 : c 17 = .inl (gI G, 100, .inl g)) (hm : m0 ≤ 100) {w : Int32} : Met l yX3_leastReaching (wv yX3_leastReaching cX3_leastReaching 3 (some .int)) ({ frames := 0, cells := 0, slots := 0, locals := 0 } : Room) (va_Pc [.ref (gad G 16), .int w] (fun U => Hw G c U U.heap)) (vp_Si (fun r => r = fstU (fun v => !decide (g v < w)) m0)) 0 0 (fun _ => False) := by
  refine en (by decide +kernel) (by first | exact Nat.le_of_ble_eq_true rfl | decide) ?_
  intro p e s m below meth cd ls hx hb hr hml hown hts hlocks hnm hw hl
  have hl : lv_has ls 3 [(0, .ref (gad G 16)), (1, .int w)] := hl
  refine lv_iconst (v := 0) hx hb dX3_leastReaching_0 (by decide) ?_
  refine lv_istore_n (lv' := [(2, _), (0, _), (1, _)]) hx hb dX3_leastReaching_1 rfl hl (by decide) rfl (fun ls hl => ?_)
  have L2 : ∀ (N : Nat) (i : Nat), (i + N = m0) → (∀ q, q < i → (!decide (g q < w)) = false) → ∀ ls : Array Slot, lv_has ls 3 [(2, .int (nI i)), (1, .int w), (0, .ref (gad G 16))] → W p l e ({ frames := 0, cells := 0, slots := 0, locals := 0 } : Room) s m (([.ref (gad G 16), .int w] : List Value).toArray) below meth cd s.heap [] 0 0 (MQ below (vp_Si (fun r => r = fstU (fun v => !decide (g v < w)) m0)) ([.ref (gad G 16), .int w] : List Value).toArray s 0 0 (fun _ => False)) (F0 m 2 ls []) := by
    intro N
    induction N with
    | zero =>
      intro i  hN hA ls hl
      obtain rfl : i = m0 := by omega
      refine lv_iload_n hx hb dX3_leastReaching_2 rfl (lv_at hl 0 rfl) ?_
      refine lv_aload_n hx hb dX3_leastReaching_3 rfl (lv_at hl 2 rfl) ?_
      refine w_get (C := RX3) (T := TX3) (N := 2) 1 hx hb hts inX3 hown hw (by decide) l1 rfl (by decide) (hts _ tw_129) rfl dX3_leastReaching_4 ?_
      refine lv_icmp_ge (tgt := 28) hx hb dX3_leastReaching_7 (by decide) (fun c7 => ?_) (fun q => absurd (Int32.le_refl _) q)
      refine lv_iconst (v := (-1)) hx hb dX3_leastReaching_28 (by decide) ?_
      exact re_S hx hb hr hlocks (rfl) dX3_leastReaching_29 ((fstU_n _ hA).symm)
    | succ N ih =>
      intro i  hN hA ls hl
      refine lv_iload_n hx hb dX3_leastReaching_2 rfl (lv_at hl 0 rfl) ?_
      refine lv_aload_n hx hb dX3_leastReaching_3 rfl (lv_at hl 2 rfl) ?_
      refine w_get (C := RX3) (T := TX3) (N := 2) 1 hx hb hts inX3 hown hw (by decide) l1 rfl (by decide) (hts _ tw_129) rfl dX3_leastReaching_4 ?_
      refine lv_icmp_ge (tgt := 28) hx hb dX3_leastReaching_7 (by decide) (fun q => absurd q (nI_ge (by omega) (by omega))) (fun c7 => ?_)
      refine lv_aload_n hx hb dX3_leastReaching_10 rfl (lv_at hl 2 rfl) ?_
      refine w_get (C := RX3) (T := TX3) (N := 2) 0 hx hb hts inX3 hown hw (by decide) l1 rfl (by decide) (hts _ tw_128) rfl dX3_leastReaching_11 ?_
      refine lv_iload_n hx hb dX3_leastReaching_14 rfl (lv_at hl 0 rfl) ?_
      refine w_ialdN (j := i) hx hb hw (by decide) l2 (rfl) (by omega) (by decide) dX3_leastReaching_15 ?_
      refine lv_iload_n hx hb dX3_leastReaching_16 rfl (lv_at hl 1 rfl) ?_
      refine lv_icmp_lt (tgt := 22) hx hb dX3_leastReaching_17 (by decide) (fun c17 => ?_) (fun c17 => ?_)
      · refine lv_iinc (v := nI (i + 1)) (lv' := [(2, _), (1, _), (0, _)]) hx hb dX3_leastReaching_22 hl (k := 0) rfl (inc1 i) (by decide) rfl (fun ls hl => ?_)
        refine lv_goto (tgt := 2) hx hb dX3_leastReaching_25 (by decide) ?_
        exact ih (i + 1) (by omega) (lt_s hA (by simp [c17])) ls (lv_sub hl [0, 1, 2] rfl)
      · refine lv_iload_n hx hb dX3_leastReaching_20 rfl (lv_at hl 0 rfl) ?_
        exact re_S hx hb hr hlocks (rfl) dX3_leastReaching_21 (by rw [fstU_s (by omega) hA (by simp [c17]) m0 (by omega)])
  exact L2 m0 0 (by omega) lt_0 ls (lv_sub hl [0, 2, 1] rfl)
set_option maxHeartbeats 4000000 in
set_option maxRecDepth 100000 in
theorem k_X3_jumpCount (l : Launch) {G : GT} {c : Nat → va_E} {m0 : Nat} {g : Nat → Int32} (l1 : c 16 = .inr (2, [.ref (gad G 17), .int (nI m0)])) (l2 : c 17 = .inl (gI G, 100, .inl g)) (hm : m0 ≤ 100) (hm1 : 1 ≤ m0) : Met l yX3_jumpCount (wv yX3_jumpCount cX3_jumpCount 3 (some .int)) ({ frames := 1, cells := 0, slots := 0, locals := 21 } : Room) (va_Pc [.ref (gad G 16)] (fun U => Hw G c U U.heap)) (vp_Si (fun r => r = nI (cntU (JP g) m0))) 0 0 (fun _ => False) := by
  refine en (by decide +kernel) (by first | exact Nat.le_of_ble_eq_true rfl | decide) ?_
  intro p e s m below meth cd ls hx hb hr hml hown hts hlocks hnm hw hl
  have hl : lv_has ls 3 [(0, .ref (gad G 16))] := hl
  refine lv_iconst (v := 0) hx hb dX3_jumpCount_0 (by decide) ?_
  refine lv_istore_n (lv' := [(1, _), (0, _)]) hx hb dX3_jumpCount_1 rfl hl (by decide) rfl (fun ls hl => ?_)
  refine lv_iconst (v := 1) hx hb dX3_jumpCount_2 (by decide) ?_
  refine lv_istore_n (lv' := [(2, _), (1, _), (0, _)]) hx hb dX3_jumpCount_3 rfl hl (by decide) rfl (fun ls hl => ?_)
  have L4 : ∀ (N : Nat) (i : Nat), (i + N = m0) → (1 ≤ i) → ∀ ls : Array Slot, lv_has ls 3 [(2, .int (nI i)), (1, .int (nI (cntU (JP g) i))), (0, .ref (gad G 16))] → W p l e ({ frames := 1, cells := 0, slots := 0, locals := 21 } : Room) s m (([.ref (gad G 16)] : List Value).toArray) below meth cd s.heap [] 0 0 (MQ below (vp_Si (fun r => r = nI (cntU (JP g) m0))) ([.ref (gad G 16)] : List Value).toArray s 0 0 (fun _ => False)) (F0 m 4 ls []) := by
    intro N
    induction N with
    | zero =>
      intro i  hN hi ls hl
      obtain rfl : i = m0 := by omega
      refine lv_iload_n hx hb dX3_jumpCount_4 rfl (lv_at hl 0 rfl) ?_
      refine lv_aload_n hx hb dX3_jumpCount_5 rfl (lv_at hl 2 rfl) ?_
      refine w_get (C := RX3) (T := TX3) (N := 2) 1 hx hb hts inX3 hown hw (by decide) l1 rfl (by decide) (hts _ tw_129) rfl dX3_jumpCount_6 ?_
      refine lv_icmp_ge (tgt := 29) hx hb dX3_jumpCount_9 (by decide) (fun c9 => ?_) (fun q => absurd (Int32.le_refl _) q)
      refine lv_iload_n hx hb dX3_jumpCount_29 rfl (lv_at hl 1 rfl) ?_
      exact re_S hx hb hr hlocks (rfl) dX3_jumpCount_30 (rfl)
    | succ N ih =>
      intro i  hN hi ls hl
      refine lv_iload_n hx hb dX3_jumpCount_4 rfl (lv_at hl 0 rfl) ?_
      refine lv_aload_n hx hb dX3_jumpCount_5 rfl (lv_at hl 2 rfl) ?_
      refine w_get (C := RX3) (T := TX3) (N := 2) 1 hx hb hts inX3 hown hw (by decide) l1 rfl (by decide) (hts _ tw_129) rfl dX3_jumpCount_6 ?_
      refine lv_icmp_ge (tgt := 29) hx hb dX3_jumpCount_9 (by decide) (fun q => absurd q (nI_ge (by omega) (by omega))) (fun c9 => ?_)
      refine lv_aload_n hx hb dX3_jumpCount_12 rfl (lv_at hl 2 rfl) ?_
      refine lv_iload_n hx hb dX3_jumpCount_13 rfl (lv_at hl 0 rfl) ?_
      refine cSe (rV (As := [_]) ⟨hx, hb, hml, hown, hts⟩ hw (k_X3_isJump l l1 l2 hm (by omega) hi) (cv_X3_isJump hts tw_391 rfl rfl ⟨Nat.le_of_ble_eq_true rfl, Nat.le_of_ble_eq_true rfl⟩) (by decide) l1 rfl rfl hl.1 rfl (by first | exact Nat.le_of_ble_eq_true rfl | decide) dX3_jumpCount_14 ⟨Nat.zero_le _, Nat.zero_le _⟩) ?_
      refine zb_eq (tgt := 23) hx hb dX3_jumpCount_17 (by decide) (fun c17 => ?_) (fun c17 => ?_)
      · refine lv_iinc (v := nI (i + 1)) (lv' := [(2, _), (1, _), (0, _)]) hx hb dX3_jumpCount_23 hl (k := 0) rfl (inc1 i) (by decide) rfl (fun ls hl => ?_)
        refine lv_goto (tgt := 4) hx hb dX3_jumpCount_26 (by decide) ?_
        have e9 := cnt_n (P := JP g) (i := i) (c17)
        exact ih (i + 1) (by omega) (by omega) ls (by rw [e9]; exact lv_sub hl [0, 1, 2] rfl)
      · skip
        refine lv_iinc (v := nI (cntU (JP g) (i + 1))) (lv' := [(1, _), (2, _), (0, _)]) hx hb dX3_jumpCount_20 hl (k := 1) rfl (cnt_s (P := JP g) (c17)) (by decide) rfl (fun ls hl => ?_)
        refine lv_iinc (v := nI (i + 1)) (lv' := [(2, _), (1, _), (0, _)]) hx hb dX3_jumpCount_23 hl (k := 1) rfl (inc1 i) (by decide) rfl (fun ls hl => ?_)
        refine lv_goto (tgt := 4) hx hb dX3_jumpCount_26 (by decide) ?_
        exact ih (i + 1) (by omega) (by omega) ls (by exact lv_sub hl [0, 1, 2] rfl)
  exact L4 (m0 - 1) 1 (by omega) (by omega) ls (lv_sub hl [0, 1, 2] rfl)
set_option maxHeartbeats 4000000 in
set_option maxRecDepth 100000 in
theorem k_X3_bendCount (l : Launch) {G : GT} {c : Nat → va_E} {m0 : Nat} {g : Nat → Int32} (l1 : c 16 = .inr (2, [.ref (gad G 17), .int (nI m0)])) (l2 : c 17 = .inl (gI G, 100, .inl g)) (hm : m0 ≤ 100) (hm1 : 2 ≤ m0) : Met l yX3_bendCount (wv yX3_bendCount cX3_bendCount 3 (some .int)) ({ frames := 1, cells := 0, slots := 0, locals := 21 } : Room) (va_Pc [.ref (gad G 16)] (fun U => Hw G c U U.heap)) (vp_Si (fun r => r = nI (cntU (BP g) m0))) 0 0 (fun _ => False) := by
  refine en (by decide +kernel) (by first | exact Nat.le_of_ble_eq_true rfl | decide) ?_
  intro p e s m below meth cd ls hx hb hr hml hown hts hlocks hnm hw hl
  have hl : lv_has ls 3 [(0, .ref (gad G 16))] := hl
  refine lv_iconst (v := 0) hx hb dX3_bendCount_0 (by decide) ?_
  refine lv_istore_n (lv' := [(1, _), (0, _)]) hx hb dX3_bendCount_1 rfl hl (by decide) rfl (fun ls hl => ?_)
  refine lv_iconst (v := 2) hx hb dX3_bendCount_2 (by decide) ?_
  refine lv_istore_n (lv' := [(2, _), (1, _), (0, _)]) hx hb dX3_bendCount_3 rfl hl (by decide) rfl (fun ls hl => ?_)
  have L4 : ∀ (N : Nat) (i : Nat), (i + N = m0) → (2 ≤ i) → ∀ ls : Array Slot, lv_has ls 3 [(2, .int (nI i)), (1, .int (nI (cntU (BP g) i))), (0, .ref (gad G 16))] → W p l e ({ frames := 1, cells := 0, slots := 0, locals := 21 } : Room) s m (([.ref (gad G 16)] : List Value).toArray) below meth cd s.heap [] 0 0 (MQ below (vp_Si (fun r => r = nI (cntU (BP g) m0))) ([.ref (gad G 16)] : List Value).toArray s 0 0 (fun _ => False)) (F0 m 4 ls []) := by
    intro N
    induction N with
    | zero =>
      intro i  hN hi ls hl
      obtain rfl : i = m0 := by omega
      refine lv_iload_n hx hb dX3_bendCount_4 rfl (lv_at hl 0 rfl) ?_
      refine lv_aload_n hx hb dX3_bendCount_5 rfl (lv_at hl 2 rfl) ?_
      refine w_get (C := RX3) (T := TX3) (N := 2) 1 hx hb hts inX3 hown hw (by decide) l1 rfl (by decide) (hts _ tw_129) rfl dX3_bendCount_6 ?_
      refine lv_icmp_ge (tgt := 29) hx hb dX3_bendCount_9 (by decide) (fun c9 => ?_) (fun q => absurd (Int32.le_refl _) q)
      refine lv_iload_n hx hb dX3_bendCount_29 rfl (lv_at hl 1 rfl) ?_
      exact re_S hx hb hr hlocks (rfl) dX3_bendCount_30 (rfl)
    | succ N ih =>
      intro i  hN hi ls hl
      refine lv_iload_n hx hb dX3_bendCount_4 rfl (lv_at hl 0 rfl) ?_
      refine lv_aload_n hx hb dX3_bendCount_5 rfl (lv_at hl 2 rfl) ?_
      refine w_get (C := RX3) (T := TX3) (N := 2) 1 hx hb hts inX3 hown hw (by decide) l1 rfl (by decide) (hts _ tw_129) rfl dX3_bendCount_6 ?_
      refine lv_icmp_ge (tgt := 29) hx hb dX3_bendCount_9 (by decide) (fun q => absurd q (nI_ge (by omega) (by omega))) (fun c9 => ?_)
      refine lv_aload_n hx hb dX3_bendCount_12 rfl (lv_at hl 2 rfl) ?_
      refine lv_iload_n hx hb dX3_bendCount_13 rfl (lv_at hl 0 rfl) ?_
      refine cSe (rV (As := [_]) ⟨hx, hb, hml, hown, hts⟩ hw (k_X3_isBend l l1 l2 hm (by omega) hi) (cv_X3_isBend hts tw_421 rfl rfl ⟨Nat.le_of_ble_eq_true rfl, Nat.le_of_ble_eq_true rfl⟩) (by decide) l1 rfl rfl hl.1 rfl (by first | exact Nat.le_of_ble_eq_true rfl | decide) dX3_bendCount_14 ⟨Nat.zero_le _, Nat.zero_le _⟩) ?_
      refine zb_eq (tgt := 23) hx hb dX3_bendCount_17 (by decide) (fun c17 => ?_) (fun c17 => ?_)
      · refine lv_iinc (v := nI (i + 1)) (lv' := [(2, _), (1, _), (0, _)]) hx hb dX3_bendCount_23 hl (k := 0) rfl (inc1 i) (by decide) rfl (fun ls hl => ?_)
        refine lv_goto (tgt := 4) hx hb dX3_bendCount_26 (by decide) ?_
        have e9 := cnt_n (P := BP g) (i := i) (c17)
        exact ih (i + 1) (by omega) (by omega) ls (by rw [e9]; exact lv_sub hl [0, 1, 2] rfl)
      · skip
        refine lv_iinc (v := nI (cntU (BP g) (i + 1))) (lv' := [(1, _), (2, _), (0, _)]) hx hb dX3_bendCount_20 hl (k := 1) rfl (cnt_s (P := BP g) (c17)) (by decide) rfl (fun ls hl => ?_)
        refine lv_iinc (v := nI (i + 1)) (lv' := [(2, _), (1, _), (0, _)]) hx hb dX3_bendCount_23 hl (k := 1) rfl (inc1 i) (by decide) rfl (fun ls hl => ?_)
        refine lv_goto (tgt := 4) hx hb dX3_bendCount_26 (by decide) ?_
        exact ih (i + 1) (by omega) (by omega) ls (by exact lv_sub hl [0, 1, 2] rfl)
  exact L4 (m0 - 2) 2 (by omega) (by omega) ls (lv_sub hl [0, 1, 2] rfl)
theorem chh_ix {m0 : Nat} {x : Int32} (hm : m0 ≤ 100) (c2 : ¬ x < 1) (c10 : x < nI m0) : ∃ v : Nat, 1 ≤ v ∧ v < m0 ∧ x = nI v := by
  rcases pk_ix x (n := m0) (by omega) with z | z | ⟨v, z, rfl⟩
  · exact absurd (Int32.lt_trans z (by decide)) c2
  · exact absurd c10 (Int32.not_lt.mpr z)
  · rcases Nat.lt_or_ge v 1 with q | q
    · exact absurd (nI_lt (b := 1) q (by omega)) c2
    · exact ⟨v, q, z, rfl⟩
set_option maxHeartbeats 4000000 in
set_option maxRecDepth 100000 in
theorem k_X3_cliffHeight (l : Launch) {G : GT} {c : Nat → va_E} {m0 : Nat} {g : Nat → Int32} (l1 : c 16 = .inr (2, [.ref (gad G 17), .int (nI m0)])) (l2 : c 17 = .inl (gI G, 100, .inl g)) (hm : m0 ≤ 100) {x : Int32} : Met l yX3_cliffHeight (wv yX3_cliffHeight cX3_cliffHeight 2 (some .int)) ({ frames := 1, cells := 0, slots := 0, locals := 21 } : Room) (va_Pc [.ref (gad G 16), .int x] (fun U => Hw G c U U.heap)) (vp_Si (fun r => r = chh g m0 x)) 0 0 (fun _ => False) := by
  refine en (by decide +kernel) (by first | exact Nat.le_of_ble_eq_true rfl | decide) ?_
  intro p e s m below meth cd ls hx hb hr hml hown hts hlocks hnm hw hl
  have hl : lv_has ls 2 [(0, .ref (gad G 16)), (1, .int x)] := hl
  refine lv_iload_n hx hb dX3_cliffHeight_0 rfl (lv_at hl 1 rfl) ?_
  refine lv_iconst (v := 1) hx hb dX3_cliffHeight_1 (by decide) ?_
  refine lv_icmp_lt (tgt := 13) hx hb dX3_cliffHeight_2 (by decide) (fun c2 => ?_) (fun c2 => ?_)
  · refine lv_iconst (v := 0) hx hb dX3_cliffHeight_13 (by decide) ?_
    exact re_S hx hb hr hlocks (rfl) dX3_cliffHeight_14 (by first | (rw [chh, if_pos c2]; done) | (rw [chh, if_neg c2, if_neg c10]))
  · refine lv_iload_n hx hb dX3_cliffHeight_5 rfl (lv_at hl 1 rfl) ?_
    refine lv_aload_n hx hb dX3_cliffHeight_6 rfl (lv_at hl 0 rfl) ?_
    refine w_get (C := RX3) (T := TX3) (N := 2) 1 hx hb hts inX3 hown hw (by decide) l1 rfl (by decide) (hts _ tw_129) rfl dX3_cliffHeight_7 ?_
    refine lv_icmp_lt (tgt := 15) hx hb dX3_cliffHeight_10 (by decide) (fun c10 => ?_) (fun c10 => ?_)
    · obtain ⟨v, hv0, hv1, rfl⟩ := chh_ix hm c2 c10
      refine lv_iconst (v := 0) hx hb dX3_cliffHeight_15 (by decide) ?_
      refine lv_aload_n hx hb dX3_cliffHeight_16 rfl (lv_at hl 0 rfl) ?_
      refine w_get (C := RX3) (T := TX3) (N := 2) 0 hx hb hts inX3 hown hw (by decide) l1 rfl (by decide) (hts _ tw_128) rfl dX3_cliffHeight_17 ?_
      refine lv_iload_n hx hb dX3_cliffHeight_20 rfl (lv_at hl 1 rfl) ?_
      refine lv_iconst (v := 1) hx hb dX3_cliffHeight_21 (by decide) ?_
      refine lv_isub hx hb dX3_cliffHeight_22 ?_
      refine w_ialdN (j := v - 1) hx hb hw (by decide) l2 (ixp hv0) (by omega) (by decide) dX3_cliffHeight_23 ?_
      refine lv_aload_n hx hb dX3_cliffHeight_24 rfl (lv_at hl 0 rfl) ?_
      refine w_get (C := RX3) (T := TX3) (N := 2) 0 hx hb hts inX3 hown hw (by decide) l1 rfl (by decide) (hts _ tw_128) rfl dX3_cliffHeight_25 ?_
      refine lv_iload_n hx hb dX3_cliffHeight_28 rfl (lv_at hl 1 rfl) ?_
      refine w_ialdN (j := v) hx hb hw (by decide) l2 (rfl) (by omega) (by decide) dX3_cliffHeight_29 ?_
      refine lv_isub hx hb dX3_cliffHeight_30 ?_
      refine va_mmax hx hb (hml.trans hl.1.symm) hown (hts _ tw_407) (hts _ tw_325) (hts _ tw_13) (hts _ tw_326) (Nat.le_of_ble_eq_true rfl) (Nat.le_of_ble_eq_true rfl) (Nat.zero_le _) (Nat.zero_le _) dX3_cliffHeight_31 ?_
      exact re_S hx hb hr hlocks (rfl) dX3_cliffHeight_34 (by rw [chh_nI hv0 hv1 (by omega)]; rfl)
    · refine lv_iconst (v := 0) hx hb dX3_cliffHeight_13 (by decide) ?_
      exact re_S hx hb hr hlocks (rfl) dX3_cliffHeight_14 (by first | (rw [chh, if_pos c2]; done) | (rw [chh, if_neg c2, if_neg c10]))
set_option maxHeartbeats 4000000 in
set_option maxRecDepth 100000 in
theorem k_X3_cliffCount (l : Launch) {G : GT} {c : Nat → va_E} {m0 : Nat} {g : Nat → Int32} (l1 : c 16 = .inr (2, [.ref (gad G 17), .int (nI m0)])) (l2 : c 17 = .inl (gI G, 100, .inl g)) (hm : m0 ≤ 100) (hm1 : 1 ≤ m0) : Met l yX3_cliffCount (wv yX3_cliffCount cX3_cliffCount 3 (some .int)) ({ frames := 2, cells := 0, slots := 0, locals := 42 } : Room) (va_Pc [.ref (gad G 16)] (fun U => Hw G c U U.heap)) (vp_Si (fun r => r = nI (cntU ((fun v => decide (1 ≤ v) && decide (0 < chN g v))) m0))) 0 0 (fun _ => False) := by
  refine en (by decide +kernel) (by first | exact Nat.le_of_ble_eq_true rfl | decide) ?_
  intro p e s m below meth cd ls hx hb hr hml hown hts hlocks hnm hw hl
  have hl : lv_has ls 3 [(0, .ref (gad G 16))] := hl
  refine lv_iconst (v := 0) hx hb dX3_cliffCount_0 (by decide) ?_
  refine lv_istore_n (lv' := [(1, _), (0, _)]) hx hb dX3_cliffCount_1 rfl hl (by decide) rfl (fun ls hl => ?_)
  refine lv_iconst (v := 1) hx hb dX3_cliffCount_2 (by decide) ?_
  refine lv_istore_n (lv' := [(2, _), (1, _), (0, _)]) hx hb dX3_cliffCount_3 rfl hl (by decide) rfl (fun ls hl => ?_)
  have L4 : ∀ (N : Nat) (i : Nat), (i + N = m0) → (1 ≤ i) → ∀ ls : Array Slot, lv_has ls 3 [(2, .int (nI i)), (1, .int (nI (cntU ((fun v => decide (1 ≤ v) && decide (0 < chN g v))) i))), (0, .ref (gad G 16))] → W p l e ({ frames := 2, cells := 0, slots := 0, locals := 42 } : Room) s m (([.ref (gad G 16)] : List Value).toArray) below meth cd s.heap [] 0 0 (MQ below (vp_Si (fun r => r = nI (cntU ((fun v => decide (1 ≤ v) && decide (0 < chN g v))) m0))) ([.ref (gad G 16)] : List Value).toArray s 0 0 (fun _ => False)) (F0 m 4 ls []) := by
    intro N
    induction N with
    | zero =>
      intro i  hN hi ls hl
      obtain rfl : i = m0 := by omega
      refine lv_iload_n hx hb dX3_cliffCount_4 rfl (lv_at hl 0 rfl) ?_
      refine lv_aload_n hx hb dX3_cliffCount_5 rfl (lv_at hl 2 rfl) ?_
      refine w_get (C := RX3) (T := TX3) (N := 2) 1 hx hb hts inX3 hown hw (by decide) l1 rfl (by decide) (hts _ tw_129) rfl dX3_cliffCount_6 ?_
      refine lv_icmp_ge (tgt := 29) hx hb dX3_cliffCount_9 (by decide) (fun c9 => ?_) (fun q => absurd (Int32.le_refl _) q)
      refine lv_iload_n hx hb dX3_cliffCount_29 rfl (lv_at hl 1 rfl) ?_
      exact re_S hx hb hr hlocks (rfl) dX3_cliffCount_30 (rfl)
    | succ N ih =>
      intro i  hN hi ls hl
      refine lv_iload_n hx hb dX3_cliffCount_4 rfl (lv_at hl 0 rfl) ?_
      refine lv_aload_n hx hb dX3_cliffCount_5 rfl (lv_at hl 2 rfl) ?_
      refine w_get (C := RX3) (T := TX3) (N := 2) 1 hx hb hts inX3 hown hw (by decide) l1 rfl (by decide) (hts _ tw_129) rfl dX3_cliffCount_6 ?_
      refine lv_icmp_ge (tgt := 29) hx hb dX3_cliffCount_9 (by decide) (fun q => absurd q (nI_ge (by omega) (by omega))) (fun c9 => ?_)
      refine lv_aload_n hx hb dX3_cliffCount_12 rfl (lv_at hl 2 rfl) ?_
      refine lv_iload_n hx hb dX3_cliffCount_13 rfl (lv_at hl 0 rfl) ?_
      refine cSe (rV (As := [_]) ⟨hx, hb, hml, hown, hts⟩ hw (k_X3_cliffHeight l l1 l2 hm) (cv_X3_cliffHeight hts tw_403 rfl rfl ⟨Nat.le_of_ble_eq_true rfl, Nat.le_of_ble_eq_true rfl⟩) (by decide) l1 rfl rfl hl.1 rfl (by first | exact Nat.le_of_ble_eq_true rfl | decide) dX3_cliffCount_14 ⟨Nat.zero_le _, Nat.zero_le _⟩) ?_
      refine lv_if_le (tgt := 23) hx hb dX3_cliffCount_17 (by decide) (fun c17 => ?_) (fun c17 => ?_)
      · refine lv_iinc (v := nI (i + 1)) (lv' := [(2, _), (1, _), (0, _)]) hx hb dX3_cliffCount_23 hl (k := 0) rfl (inc1 i) (by decide) rfl (fun ls hl => ?_)
        refine lv_goto (tgt := 4) hx hb dX3_cliffCount_26 (by decide) ?_
        have e9 := cnt_n (P := (fun v => decide (1 ≤ v) && decide (0 < chN g v))) (i := i) (by simp [hi]; rw [← chh_nI (m := m0) hi (by omega) (by omega)]; exact c17)
        exact ih (i + 1) (by omega) (by omega) ls (by rw [e9]; exact lv_sub hl [0, 1, 2] rfl)
      · skip
        refine lv_iinc (v := nI (cntU ((fun v => decide (1 ≤ v) && decide (0 < chN g v))) (i + 1))) (lv' := [(1, _), (2, _), (0, _)]) hx hb dX3_cliffCount_20 hl (k := 1) rfl (cnt_s (P := (fun v => decide (1 ≤ v) && decide (0 < chN g v))) (by simp [hi]; rw [← chh_nI (m := m0) hi (by omega) (by omega)]; exact Int32.not_le.mp c17)) (by decide) rfl (fun ls hl => ?_)
        refine lv_iinc (v := nI (i + 1)) (lv' := [(2, _), (1, _), (0, _)]) hx hb dX3_cliffCount_23 hl (k := 1) rfl (inc1 i) (by decide) rfl (fun ls hl => ?_)
        refine lv_goto (tgt := 4) hx hb dX3_cliffCount_26 (by decide) ?_
        exact ih (i + 1) (by omega) (by omega) ls (by exact lv_sub hl [0, 1, 2] rfl)
  exact L4 (m0 - 1) 1 (by omega) (by omega) ls (lv_sub hl [0, 1, 2] rfl)
set_option maxHeartbeats 4000000 in
set_option maxRecDepth 100000 in
theorem k_X3_otherThanZeroCount (l : Launch) {G : GT} {c : Nat → va_E} {m0 : Nat} {g : Nat → Int32} (l1 : c 16 = .inr (2, [.ref (gad G 17), .int (nI m0)])) (l2 : c 17 = .inl (gI G, 100, .inl g)) (hm : m0 ≤ 100) : Met l yX3_otherThanZeroCount (wv yX3_otherThanZeroCount cX3_otherThanZeroCount 3 (some .int)) ({ frames := 0, cells := 0, slots := 0, locals := 0 } : Room) (va_Pc [.ref (gad G 16)] (fun U => Hw G c U U.heap)) (vp_Si (fun r => r = nI (cntU ((fun v => decide (g v ≠ 0))) m0))) 0 0 (fun _ => False) := by
  refine en (by decide +kernel) (by first | exact Nat.le_of_ble_eq_true rfl | decide) ?_
  intro p e s m below meth cd ls hx hb hr hml hown hts hlocks hnm hw hl
  have hl : lv_has ls 3 [(0, .ref (gad G 16))] := hl
  refine lv_iconst (v := 0) hx hb dX3_otherThanZeroCount_0 (by decide) ?_
  refine lv_istore_n (lv' := [(1, _), (0, _)]) hx hb dX3_otherThanZeroCount_1 rfl hl (by decide) rfl (fun ls hl => ?_)
  refine lv_iconst (v := 0) hx hb dX3_otherThanZeroCount_2 (by decide) ?_
  refine lv_istore_n (lv' := [(2, _), (1, _), (0, _)]) hx hb dX3_otherThanZeroCount_3 rfl hl (by decide) rfl (fun ls hl => ?_)
  have L4 : ∀ (N : Nat) (i : Nat), (i + N = m0) → ∀ ls : Array Slot, lv_has ls 3 [(2, .int (nI i)), (1, .int (nI (cntU ((fun v => decide (g v ≠ 0))) i))), (0, .ref (gad G 16))] → W p l e ({ frames := 0, cells := 0, slots := 0, locals := 0 } : Room) s m (([.ref (gad G 16)] : List Value).toArray) below meth cd s.heap [] 0 0 (MQ below (vp_Si (fun r => r = nI (cntU ((fun v => decide (g v ≠ 0))) m0))) ([.ref (gad G 16)] : List Value).toArray s 0 0 (fun _ => False)) (F0 m 4 ls []) := by
    intro N
    induction N with
    | zero =>
      intro i  hN ls hl
      obtain rfl : i = m0 := by omega
      refine lv_iload_n hx hb dX3_otherThanZeroCount_4 rfl (lv_at hl 0 rfl) ?_
      refine lv_aload_n hx hb dX3_otherThanZeroCount_5 rfl (lv_at hl 2 rfl) ?_
      refine w_get (C := RX3) (T := TX3) (N := 2) 1 hx hb hts inX3 hown hw (by decide) l1 rfl (by decide) (hts _ tw_129) rfl dX3_otherThanZeroCount_6 ?_
      refine lv_icmp_ge (tgt := 30) hx hb dX3_otherThanZeroCount_9 (by decide) (fun c9 => ?_) (fun q => absurd (Int32.le_refl _) q)
      refine lv_iload_n hx hb dX3_otherThanZeroCount_30 rfl (lv_at hl 1 rfl) ?_
      exact re_S hx hb hr hlocks (rfl) dX3_otherThanZeroCount_31 (rfl)
    | succ N ih =>
      intro i  hN ls hl
      refine lv_iload_n hx hb dX3_otherThanZeroCount_4 rfl (lv_at hl 0 rfl) ?_
      refine lv_aload_n hx hb dX3_otherThanZeroCount_5 rfl (lv_at hl 2 rfl) ?_
      refine w_get (C := RX3) (T := TX3) (N := 2) 1 hx hb hts inX3 hown hw (by decide) l1 rfl (by decide) (hts _ tw_129) rfl dX3_otherThanZeroCount_6 ?_
      refine lv_icmp_ge (tgt := 30) hx hb dX3_otherThanZeroCount_9 (by decide) (fun q => absurd q (nI_ge (by omega) (by omega))) (fun c9 => ?_)
      refine lv_aload_n hx hb dX3_otherThanZeroCount_12 rfl (lv_at hl 2 rfl) ?_
      refine w_get (C := RX3) (T := TX3) (N := 2) 0 hx hb hts inX3 hown hw (by decide) l1 rfl (by decide) (hts _ tw_128) rfl dX3_otherThanZeroCount_13 ?_
      refine lv_iload_n hx hb dX3_otherThanZeroCount_16 rfl (lv_at hl 0 rfl) ?_
      refine w_ialdN (j := i) hx hb hw (by decide) l2 (rfl) (by omega) (by decide) dX3_otherThanZeroCount_17 ?_
      refine lv_if_eq (tgt := 24) hx hb dX3_otherThanZeroCount_18 (by decide) (fun c18 => ?_) (fun c18 => ?_)
      · refine lv_iinc (v := nI (i + 1)) (lv' := [(2, _), (1, _), (0, _)]) hx hb dX3_otherThanZeroCount_24 hl (k := 0) rfl (inc1 i) (by decide) rfl (fun ls hl => ?_)
        refine lv_goto (tgt := 4) hx hb dX3_otherThanZeroCount_27 (by decide) ?_
        have e9 := cnt_n (P := (fun v => decide (g v ≠ 0))) (i := i) (by simp [c18])
        exact ih (i + 1) (by omega) ls (by rw [e9]; exact lv_sub hl [0, 1, 2] rfl)
      · skip
        refine lv_iinc (v := nI (cntU ((fun v => decide (g v ≠ 0))) (i + 1))) (lv' := [(1, _), (2, _), (0, _)]) hx hb dX3_otherThanZeroCount_21 hl (k := 1) rfl (cnt_s (P := (fun v => decide (g v ≠ 0))) (by simp [c18])) (by decide) rfl (fun ls hl => ?_)
        refine lv_iinc (v := nI (i + 1)) (lv' := [(2, _), (1, _), (0, _)]) hx hb dX3_otherThanZeroCount_24 hl (k := 1) rfl (inc1 i) (by decide) rfl (fun ls hl => ?_)
        refine lv_goto (tgt := 4) hx hb dX3_otherThanZeroCount_27 (by decide) ?_
        exact ih (i + 1) (by omega) ls (by exact lv_sub hl [0, 1, 2] rfl)
  exact L4 m0 0 (by omega) ls (lv_sub hl [0, 1, 2] rfl)
set_option maxHeartbeats 4000000 in
set_option maxRecDepth 100000 in
theorem k_X3_belowZeroCount (l : Launch) {G : GT} {c : Nat → va_E} {m0 : Nat} {g : Nat → Int32} (l1 : c 16 = .inr (2, [.ref (gad G 17), .int (nI m0)])) (l2 : c 17 = .inl (gI G, 100, .inl g)) (hm : m0 ≤ 100) : Met l yX3_belowZeroCount (wv yX3_belowZeroCount cX3_belowZeroCount 3 (some .int)) ({ frames := 0, cells := 0, slots := 0, locals := 0 } : Room) (va_Pc [.ref (gad G 16)] (fun U => Hw G c U U.heap)) (vp_Si (fun r => r = nI (cntU ((fun v => decide (g v < 0))) m0))) 0 0 (fun _ => False) := by
  refine en (by decide +kernel) (by first | exact Nat.le_of_ble_eq_true rfl | decide) ?_
  intro p e s m below meth cd ls hx hb hr hml hown hts hlocks hnm hw hl
  have hl : lv_has ls 3 [(0, .ref (gad G 16))] := hl
  refine lv_iconst (v := 0) hx hb dX3_belowZeroCount_0 (by decide) ?_
  refine lv_istore_n (lv' := [(1, _), (0, _)]) hx hb dX3_belowZeroCount_1 rfl hl (by decide) rfl (fun ls hl => ?_)
  refine lv_iconst (v := 0) hx hb dX3_belowZeroCount_2 (by decide) ?_
  refine lv_istore_n (lv' := [(2, _), (1, _), (0, _)]) hx hb dX3_belowZeroCount_3 rfl hl (by decide) rfl (fun ls hl => ?_)
  have L4 : ∀ (N : Nat) (i : Nat), (i + N = m0) → ∀ ls : Array Slot, lv_has ls 3 [(2, .int (nI i)), (1, .int (nI (cntU ((fun v => decide (g v < 0))) i))), (0, .ref (gad G 16))] → W p l e ({ frames := 0, cells := 0, slots := 0, locals := 0 } : Room) s m (([.ref (gad G 16)] : List Value).toArray) below meth cd s.heap [] 0 0 (MQ below (vp_Si (fun r => r = nI (cntU ((fun v => decide (g v < 0))) m0))) ([.ref (gad G 16)] : List Value).toArray s 0 0 (fun _ => False)) (F0 m 4 ls []) := by
    intro N
    induction N with
    | zero =>
      intro i  hN ls hl
      obtain rfl : i = m0 := by omega
      refine lv_iload_n hx hb dX3_belowZeroCount_4 rfl (lv_at hl 0 rfl) ?_
      refine lv_aload_n hx hb dX3_belowZeroCount_5 rfl (lv_at hl 2 rfl) ?_
      refine w_get (C := RX3) (T := TX3) (N := 2) 1 hx hb hts inX3 hown hw (by decide) l1 rfl (by decide) (hts _ tw_129) rfl dX3_belowZeroCount_6 ?_
      refine lv_icmp_ge (tgt := 30) hx hb dX3_belowZeroCount_9 (by decide) (fun c9 => ?_) (fun q => absurd (Int32.le_refl _) q)
      refine lv_iload_n hx hb dX3_belowZeroCount_30 rfl (lv_at hl 1 rfl) ?_
      exact re_S hx hb hr hlocks (rfl) dX3_belowZeroCount_31 (rfl)
    | succ N ih =>
      intro i  hN ls hl
      refine lv_iload_n hx hb dX3_belowZeroCount_4 rfl (lv_at hl 0 rfl) ?_
      refine lv_aload_n hx hb dX3_belowZeroCount_5 rfl (lv_at hl 2 rfl) ?_
      refine w_get (C := RX3) (T := TX3) (N := 2) 1 hx hb hts inX3 hown hw (by decide) l1 rfl (by decide) (hts _ tw_129) rfl dX3_belowZeroCount_6 ?_
      refine lv_icmp_ge (tgt := 30) hx hb dX3_belowZeroCount_9 (by decide) (fun q => absurd q (nI_ge (by omega) (by omega))) (fun c9 => ?_)
      refine lv_aload_n hx hb dX3_belowZeroCount_12 rfl (lv_at hl 2 rfl) ?_
      refine w_get (C := RX3) (T := TX3) (N := 2) 0 hx hb hts inX3 hown hw (by decide) l1 rfl (by decide) (hts _ tw_128) rfl dX3_belowZeroCount_13 ?_
      refine lv_iload_n hx hb dX3_belowZeroCount_16 rfl (lv_at hl 0 rfl) ?_
      refine w_ialdN (j := i) hx hb hw (by decide) l2 (rfl) (by omega) (by decide) dX3_belowZeroCount_17 ?_
      refine lv_if_ge (tgt := 24) hx hb dX3_belowZeroCount_18 (by decide) (fun c18 => ?_) (fun c18 => ?_)
      · refine lv_iinc (v := nI (i + 1)) (lv' := [(2, _), (1, _), (0, _)]) hx hb dX3_belowZeroCount_24 hl (k := 0) rfl (inc1 i) (by decide) rfl (fun ls hl => ?_)
        refine lv_goto (tgt := 4) hx hb dX3_belowZeroCount_27 (by decide) ?_
        have e9 := cnt_n (P := (fun v => decide (g v < 0))) (i := i) (by simp [Int32.not_lt.mpr c18])
        exact ih (i + 1) (by omega) ls (by rw [e9]; exact lv_sub hl [0, 1, 2] rfl)
      · skip
        refine lv_iinc (v := nI (cntU ((fun v => decide (g v < 0))) (i + 1))) (lv' := [(1, _), (2, _), (0, _)]) hx hb dX3_belowZeroCount_21 hl (k := 1) rfl (cnt_s (P := (fun v => decide (g v < 0))) (by simp [Int32.not_le.mp c18])) (by decide) rfl (fun ls hl => ?_)
        refine lv_iinc (v := nI (i + 1)) (lv' := [(2, _), (1, _), (0, _)]) hx hb dX3_belowZeroCount_24 hl (k := 1) rfl (inc1 i) (by decide) rfl (fun ls hl => ?_)
        refine lv_goto (tgt := 4) hx hb dX3_belowZeroCount_27 (by decide) ?_
        exact ih (i + 1) (by omega) ls (by exact lv_sub hl [0, 1, 2] rfl)
  exact L4 m0 0 (by omega) ls (lv_sub hl [0, 1, 2] rfl)
set_option maxHeartbeats 4000000 in
set_option maxRecDepth 100000 in
theorem k_X3_firstJump (l : Launch) {G : GT} {c : Nat → va_E} {m0 : Nat} {g : Nat → Int32} (l1 : c 16 = .inr (2, [.ref (gad G 17), .int (nI m0)])) (l2 : c 17 = .inl (gI G, 100, .inl g)) (hm : m0 ≤ 100) (hm1 : 1 ≤ m0) : Met l yX3_firstJump (wv yX3_firstJump cX3_firstJump 2 (some .int)) ({ frames := 1, cells := 0, slots := 0, locals := 21 } : Room) (va_Pc [.ref (gad G 16)] (fun U => Hw G c U U.heap)) (vp_Si (fun r => r = fstU (JP g) m0)) 0 0 (fun _ => False) := by
  refine en (by decide +kernel) (by first | exact Nat.le_of_ble_eq_true rfl | decide) ?_
  intro p e s m below meth cd ls hx hb hr hml hown hts hlocks hnm hw hl
  have hl : lv_has ls 2 [(0, .ref (gad G 16))] := hl
  refine lv_iconst (v := 1) hx hb dX3_firstJump_0 (by decide) ?_
  refine lv_istore_n (lv' := [(1, _), (0, _)]) hx hb dX3_firstJump_1 rfl hl (by decide) rfl (fun ls hl => ?_)
  have L2 : ∀ (N : Nat) (i : Nat), (i + N = m0) → (1 ≤ i) → (∀ q, q < i → (JP g) q = false) → ∀ ls : Array Slot, lv_has ls 2 [(1, .int (nI i)), (0, .ref (gad G 16))] → W p l e ({ frames := 1, cells := 0, slots := 0, locals := 21 } : Room) s m (([.ref (gad G 16)] : List Value).toArray) below meth cd s.heap [] 0 0 (MQ below (vp_Si (fun r => r = fstU (JP g) m0)) ([.ref (gad G 16)] : List Value).toArray s 0 0 (fun _ => False)) (F0 m 2 ls []) := by
    intro N
    induction N with
    | zero =>
      intro i  hN hi hA ls hl
      obtain rfl : i = m0 := by omega
      refine lv_iload_n hx hb dX3_firstJump_2 rfl (lv_at hl 0 rfl) ?_
      refine lv_aload_n hx hb dX3_firstJump_3 rfl (lv_at hl 1 rfl) ?_
      refine w_get (C := RX3) (T := TX3) (N := 2) 1 hx hb hts inX3 hown hw (by decide) l1 rfl (by decide) (hts _ tw_129) rfl dX3_firstJump_4 ?_
      refine lv_icmp_ge (tgt := 26) hx hb dX3_firstJump_7 (by decide) (fun c7 => ?_) (fun q => absurd (Int32.le_refl _) q)
      refine lv_iconst (v := (-1)) hx hb dX3_firstJump_26 (by decide) ?_
      exact re_S hx hb hr hlocks (rfl) dX3_firstJump_27 ((fstU_n _ hA).symm)
    | succ N ih =>
      intro i  hN hi hA ls hl
      refine lv_iload_n hx hb dX3_firstJump_2 rfl (lv_at hl 0 rfl) ?_
      refine lv_aload_n hx hb dX3_firstJump_3 rfl (lv_at hl 1 rfl) ?_
      refine w_get (C := RX3) (T := TX3) (N := 2) 1 hx hb hts inX3 hown hw (by decide) l1 rfl (by decide) (hts _ tw_129) rfl dX3_firstJump_4 ?_
      refine lv_icmp_ge (tgt := 26) hx hb dX3_firstJump_7 (by decide) (fun q => absurd q (nI_ge (by omega) (by omega))) (fun c7 => ?_)
      refine lv_aload_n hx hb dX3_firstJump_10 rfl (lv_at hl 1 rfl) ?_
      refine lv_iload_n hx hb dX3_firstJump_11 rfl (lv_at hl 0 rfl) ?_
      refine cSe (rV (As := [_]) ⟨hx, hb, hml, hown, hts⟩ hw (k_X3_isJump l l1 l2 hm (by omega) hi) (cv_X3_isJump hts tw_391 rfl rfl ⟨Nat.le_of_ble_eq_true rfl, Nat.le_of_ble_eq_true rfl⟩) (by decide) l1 rfl rfl hl.1 rfl (by first | exact Nat.le_of_ble_eq_true rfl | decide) dX3_firstJump_12 ⟨Nat.zero_le _, Nat.zero_le _⟩) ?_
      refine zb_eq (tgt := 20) hx hb dX3_firstJump_15 (by decide) (fun c15 => ?_) (fun c15 => ?_)
      · refine lv_iinc (v := nI (i + 1)) (lv' := [(1, _), (0, _)]) hx hb dX3_firstJump_20 hl (k := 0) rfl (inc1 i) (by decide) rfl (fun ls hl => ?_)
        refine lv_goto (tgt := 2) hx hb dX3_firstJump_23 (by decide) ?_
        exact ih (i + 1) (by omega) (by omega) (lt_s hA (c15)) ls (lv_sub hl [0, 1] rfl)
      · refine lv_iload_n hx hb dX3_firstJump_18 rfl (lv_at hl 0 rfl) ?_
        exact re_S hx hb hr hlocks (rfl) dX3_firstJump_19 (by rw [fstU_s (by omega) hA (c15) m0 (by omega)])
  exact L2 (m0 - 1) 1 (by omega) (by omega) (by intro q hq; simp [JP, BP]; intro; omega) ls (lv_sub hl [0, 1] rfl)
set_option maxHeartbeats 4000000 in
set_option maxRecDepth 100000 in
theorem k_X3_firstBend (l : Launch) {G : GT} {c : Nat → va_E} {m0 : Nat} {g : Nat → Int32} (l1 : c 16 = .inr (2, [.ref (gad G 17), .int (nI m0)])) (l2 : c 17 = .inl (gI G, 100, .inl g)) (hm : m0 ≤ 100) (hm1 : 2 ≤ m0) : Met l yX3_firstBend (wv yX3_firstBend cX3_firstBend 2 (some .int)) ({ frames := 1, cells := 0, slots := 0, locals := 21 } : Room) (va_Pc [.ref (gad G 16)] (fun U => Hw G c U U.heap)) (vp_Si (fun r => r = fstU (BP g) m0)) 0 0 (fun _ => False) := by
  refine en (by decide +kernel) (by first | exact Nat.le_of_ble_eq_true rfl | decide) ?_
  intro p e s m below meth cd ls hx hb hr hml hown hts hlocks hnm hw hl
  have hl : lv_has ls 2 [(0, .ref (gad G 16))] := hl
  refine lv_iconst (v := 2) hx hb dX3_firstBend_0 (by decide) ?_
  refine lv_istore_n (lv' := [(1, _), (0, _)]) hx hb dX3_firstBend_1 rfl hl (by decide) rfl (fun ls hl => ?_)
  have L2 : ∀ (N : Nat) (i : Nat), (i + N = m0) → (2 ≤ i) → (∀ q, q < i → (BP g) q = false) → ∀ ls : Array Slot, lv_has ls 2 [(1, .int (nI i)), (0, .ref (gad G 16))] → W p l e ({ frames := 1, cells := 0, slots := 0, locals := 21 } : Room) s m (([.ref (gad G 16)] : List Value).toArray) below meth cd s.heap [] 0 0 (MQ below (vp_Si (fun r => r = fstU (BP g) m0)) ([.ref (gad G 16)] : List Value).toArray s 0 0 (fun _ => False)) (F0 m 2 ls []) := by
    intro N
    induction N with
    | zero =>
      intro i  hN hi hA ls hl
      obtain rfl : i = m0 := by omega
      refine lv_iload_n hx hb dX3_firstBend_2 rfl (lv_at hl 0 rfl) ?_
      refine lv_aload_n hx hb dX3_firstBend_3 rfl (lv_at hl 1 rfl) ?_
      refine w_get (C := RX3) (T := TX3) (N := 2) 1 hx hb hts inX3 hown hw (by decide) l1 rfl (by decide) (hts _ tw_129) rfl dX3_firstBend_4 ?_
      refine lv_icmp_ge (tgt := 26) hx hb dX3_firstBend_7 (by decide) (fun c7 => ?_) (fun q => absurd (Int32.le_refl _) q)
      refine lv_iconst (v := (-1)) hx hb dX3_firstBend_26 (by decide) ?_
      exact re_S hx hb hr hlocks (rfl) dX3_firstBend_27 ((fstU_n _ hA).symm)
    | succ N ih =>
      intro i  hN hi hA ls hl
      refine lv_iload_n hx hb dX3_firstBend_2 rfl (lv_at hl 0 rfl) ?_
      refine lv_aload_n hx hb dX3_firstBend_3 rfl (lv_at hl 1 rfl) ?_
      refine w_get (C := RX3) (T := TX3) (N := 2) 1 hx hb hts inX3 hown hw (by decide) l1 rfl (by decide) (hts _ tw_129) rfl dX3_firstBend_4 ?_
      refine lv_icmp_ge (tgt := 26) hx hb dX3_firstBend_7 (by decide) (fun q => absurd q (nI_ge (by omega) (by omega))) (fun c7 => ?_)
      refine lv_aload_n hx hb dX3_firstBend_10 rfl (lv_at hl 1 rfl) ?_
      refine lv_iload_n hx hb dX3_firstBend_11 rfl (lv_at hl 0 rfl) ?_
      refine cSe (rV (As := [_]) ⟨hx, hb, hml, hown, hts⟩ hw (k_X3_isBend l l1 l2 hm (by omega) hi) (cv_X3_isBend hts tw_421 rfl rfl ⟨Nat.le_of_ble_eq_true rfl, Nat.le_of_ble_eq_true rfl⟩) (by decide) l1 rfl rfl hl.1 rfl (by first | exact Nat.le_of_ble_eq_true rfl | decide) dX3_firstBend_12 ⟨Nat.zero_le _, Nat.zero_le _⟩) ?_
      refine zb_eq (tgt := 20) hx hb dX3_firstBend_15 (by decide) (fun c15 => ?_) (fun c15 => ?_)
      · refine lv_iinc (v := nI (i + 1)) (lv' := [(1, _), (0, _)]) hx hb dX3_firstBend_20 hl (k := 0) rfl (inc1 i) (by decide) rfl (fun ls hl => ?_)
        refine lv_goto (tgt := 2) hx hb dX3_firstBend_23 (by decide) ?_
        exact ih (i + 1) (by omega) (by omega) (lt_s hA (c15)) ls (lv_sub hl [0, 1] rfl)
      · refine lv_iload_n hx hb dX3_firstBend_18 rfl (lv_at hl 0 rfl) ?_
        exact re_S hx hb hr hlocks (rfl) dX3_firstBend_19 (by rw [fstU_s (by omega) hA (c15) m0 (by omega)])
  exact L2 (m0 - 2) 2 (by omega) (by omega) (by intro q hq; simp [JP, BP]; intro; omega) ls (lv_sub hl [0, 1] rfl)
set_option maxHeartbeats 4000000 in
set_option maxRecDepth 100000 in
theorem k_X3_firstOtherThanZero (l : Launch) {G : GT} {c : Nat → va_E} {m0 : Nat} {g : Nat → Int32} (l1 : c 16 = .inr (2, [.ref (gad G 17), .int (nI m0)])) (l2 : c 17 = .inl (gI G, 100, .inl g)) (hm : m0 ≤ 100) : Met l yX3_firstOtherThanZero (wv yX3_firstOtherThanZero cX3_firstOtherThanZero 2 (some .int)) ({ frames := 0, cells := 0, slots := 0, locals := 0 } : Room) (va_Pc [.ref (gad G 16)] (fun U => Hw G c U U.heap)) (vp_Si (fun r => r = fstU (fun v => decide (g v ≠ 0)) m0)) 0 0 (fun _ => False) := by
  refine en (by decide +kernel) (by first | exact Nat.le_of_ble_eq_true rfl | decide) ?_
  intro p e s m below meth cd ls hx hb hr hml hown hts hlocks hnm hw hl
  have hl : lv_has ls 2 [(0, .ref (gad G 16))] := hl
  refine lv_iconst (v := 0) hx hb dX3_firstOtherThanZero_0 (by decide) ?_
  refine lv_istore_n (lv' := [(1, _), (0, _)]) hx hb dX3_firstOtherThanZero_1 rfl hl (by decide) rfl (fun ls hl => ?_)
  have L2 : ∀ (N : Nat) (i : Nat), (i + N = m0) → (∀ q, q < i → (fun v => decide (g v ≠ 0)) q = false) → ∀ ls : Array Slot, lv_has ls 2 [(1, .int (nI i)), (0, .ref (gad G 16))] → W p l e ({ frames := 0, cells := 0, slots := 0, locals := 0 } : Room) s m (([.ref (gad G 16)] : List Value).toArray) below meth cd s.heap [] 0 0 (MQ below (vp_Si (fun r => r = fstU (fun v => decide (g v ≠ 0)) m0)) ([.ref (gad G 16)] : List Value).toArray s 0 0 (fun _ => False)) (F0 m 2 ls []) := by
    intro N
    induction N with
    | zero =>
      intro i  hN hA ls hl
      obtain rfl : i = m0 := by omega
      refine lv_iload_n hx hb dX3_firstOtherThanZero_2 rfl (lv_at hl 0 rfl) ?_
      refine lv_aload_n hx hb dX3_firstOtherThanZero_3 rfl (lv_at hl 1 rfl) ?_
      refine w_get (C := RX3) (T := TX3) (N := 2) 1 hx hb hts inX3 hown hw (by decide) l1 rfl (by decide) (hts _ tw_129) rfl dX3_firstOtherThanZero_4 ?_
      refine lv_icmp_ge (tgt := 27) hx hb dX3_firstOtherThanZero_7 (by decide) (fun c7 => ?_) (fun q => absurd (Int32.le_refl _) q)
      refine lv_iconst (v := (-1)) hx hb dX3_firstOtherThanZero_27 (by decide) ?_
      exact re_S hx hb hr hlocks (rfl) dX3_firstOtherThanZero_28 ((fstU_n _ hA).symm)
    | succ N ih =>
      intro i  hN hA ls hl
      refine lv_iload_n hx hb dX3_firstOtherThanZero_2 rfl (lv_at hl 0 rfl) ?_
      refine lv_aload_n hx hb dX3_firstOtherThanZero_3 rfl (lv_at hl 1 rfl) ?_
      refine w_get (C := RX3) (T := TX3) (N := 2) 1 hx hb hts inX3 hown hw (by decide) l1 rfl (by decide) (hts _ tw_129) rfl dX3_firstOtherThanZero_4 ?_
      refine lv_icmp_ge (tgt := 27) hx hb dX3_firstOtherThanZero_7 (by decide) (fun q => absurd q (nI_ge (by omega) (by omega))) (fun c7 => ?_)
      refine lv_aload_n hx hb dX3_firstOtherThanZero_10 rfl (lv_at hl 1 rfl) ?_
      refine w_get (C := RX3) (T := TX3) (N := 2) 0 hx hb hts inX3 hown hw (by decide) l1 rfl (by decide) (hts _ tw_128) rfl dX3_firstOtherThanZero_11 ?_
      refine lv_iload_n hx hb dX3_firstOtherThanZero_14 rfl (lv_at hl 0 rfl) ?_
      refine w_ialdN (j := i) hx hb hw (by decide) l2 (rfl) (by omega) (by decide) dX3_firstOtherThanZero_15 ?_
      refine lv_if_eq (tgt := 21) hx hb dX3_firstOtherThanZero_16 (by decide) (fun c16 => ?_) (fun c16 => ?_)
      · refine lv_iinc (v := nI (i + 1)) (lv' := [(1, _), (0, _)]) hx hb dX3_firstOtherThanZero_21 hl (k := 0) rfl (inc1 i) (by decide) rfl (fun ls hl => ?_)
        refine lv_goto (tgt := 2) hx hb dX3_firstOtherThanZero_24 (by decide) ?_
        exact ih (i + 1) (by omega) (lt_s hA (by simp [c16])) ls (lv_sub hl [0, 1] rfl)
      · refine lv_iload_n hx hb dX3_firstOtherThanZero_19 rfl (lv_at hl 0 rfl) ?_
        exact re_S hx hb hr hlocks (rfl) dX3_firstOtherThanZero_20 (by rw [fstU_s (by omega) hA (by simp [c16]) m0 (by omega)])
  exact L2 m0 0 (by omega) lt_0 ls (lv_sub hl [0, 1] rfl)
set_option maxHeartbeats 4000000 in
set_option maxRecDepth 100000 in
theorem k_X3_highestCliff (l : Launch) {G : GT} {c : Nat → va_E} {m0 : Nat} {g : Nat → Int32} (l1 : c 16 = .inr (2, [.ref (gad G 17), .int (nI m0)])) (l2 : c 17 = .inl (gI G, 100, .inl g)) (hm : m0 ≤ 100) (hm1 : 1 ≤ m0) : Met l yX3_highestCliff (wv yX3_highestCliff cX3_highestCliff 3 (some .int)) ({ frames := 2, cells := 0, slots := 0, locals := 42 } : Room) (va_Pc [.ref (gad G 16)] (fun U => Hw G c U U.heap)) (vp_Si (fun r => r = hcl g m0 m0)) 0 0 (fun _ => False) := by
  refine en (by decide +kernel) (by first | exact Nat.le_of_ble_eq_true rfl | decide) ?_
  intro p e s m below meth cd ls hx hb hr hml hown hts hlocks hnm hw hl
  have hl : lv_has ls 3 [(0, .ref (gad G 16))] := hl
  refine lv_iconst (v := (-1)) hx hb dX3_highestCliff_0 (by decide) ?_
  refine lv_istore_n (lv' := [(1, _), (0, _)]) hx hb dX3_highestCliff_1 rfl hl (by decide) rfl (fun ls hl => ?_)
  refine lv_iconst (v := 1) hx hb dX3_highestCliff_2 (by decide) ?_
  refine lv_istore_n (lv' := [(2, _), (1, _), (0, _)]) hx hb dX3_highestCliff_3 rfl hl (by decide) rfl (fun ls hl => ?_)
  have L4 : ∀ (N : Nat) (i : Nat) (x : Int32), (i + N = m0) → (1 ≤ i) → (x = hcl g m0 i) → ∀ ls : Array Slot, lv_has ls 3 [(2, .int (nI i)), (1, .int x), (0, .ref (gad G 16))] → W p l e ({ frames := 2, cells := 0, slots := 0, locals := 42 } : Room) s m (([.ref (gad G 16)] : List Value).toArray) below meth cd s.heap [] 0 0 (MQ below (vp_Si (fun r => r = hcl g m0 m0)) ([.ref (gad G 16)] : List Value).toArray s 0 0 (fun _ => False)) (F0 m 4 ls []) := by
    intro N
    induction N with
    | zero =>
      intro i  x  hN hi hA ls hl
      obtain rfl : i = m0 := by omega
      refine lv_iload_n hx hb dX3_highestCliff_4 rfl (lv_at hl 0 rfl) ?_
      refine lv_aload_n hx hb dX3_highestCliff_5 rfl (lv_at hl 2 rfl) ?_
      refine w_get (C := RX3) (T := TX3) (N := 2) 1 hx hb hts inX3 hown hw (by decide) l1 rfl (by decide) (hts _ tw_129) rfl dX3_highestCliff_6 ?_
      refine lv_icmp_ge (tgt := 33) hx hb dX3_highestCliff_9 (by decide) (fun c9 => ?_) (fun q => absurd (Int32.le_refl _) q)
      refine lv_iload_n hx hb dX3_highestCliff_33 rfl (lv_at hl 1 rfl) ?_
      exact re_S hx hb hr hlocks (rfl) dX3_highestCliff_34 (hA)
    | succ N ih =>
      intro i  x  hN hi hA ls hl
      refine lv_iload_n hx hb dX3_highestCliff_4 rfl (lv_at hl 0 rfl) ?_
      refine lv_aload_n hx hb dX3_highestCliff_5 rfl (lv_at hl 2 rfl) ?_
      refine w_get (C := RX3) (T := TX3) (N := 2) 1 hx hb hts inX3 hown hw (by decide) l1 rfl (by decide) (hts _ tw_129) rfl dX3_highestCliff_6 ?_
      refine lv_icmp_ge (tgt := 33) hx hb dX3_highestCliff_9 (by decide) (fun q => absurd q (nI_ge (by omega) (by omega))) (fun c9 => ?_)
      refine lv_aload_n hx hb dX3_highestCliff_12 rfl (lv_at hl 2 rfl) ?_
      refine lv_iload_n hx hb dX3_highestCliff_13 rfl (lv_at hl 0 rfl) ?_
      refine cSe (rV (As := [_]) ⟨hx, hb, hml, hown, hts⟩ hw (k_X3_cliffHeight l l1 l2 hm) (cv_X3_cliffHeight hts tw_403 rfl rfl ⟨Nat.le_of_ble_eq_true rfl, Nat.le_of_ble_eq_true rfl⟩) (by decide) l1 rfl rfl hl.1 rfl (by first | exact Nat.le_of_ble_eq_true rfl | decide) dX3_highestCliff_14 ⟨Nat.zero_le _, Nat.zero_le _⟩) ?_
      refine lv_aload_n hx hb dX3_highestCliff_17 rfl (lv_at hl 2 rfl) ?_
      refine lv_iload_n hx hb dX3_highestCliff_18 rfl (lv_at hl 1 rfl) ?_
      refine cSe (rV (As := [_]) ⟨hx, hb, hml, hown, hts⟩ hw (k_X3_cliffHeight l l1 l2 hm) (cv_X3_cliffHeight hts tw_403 rfl rfl ⟨Nat.le_of_ble_eq_true rfl, Nat.le_of_ble_eq_true rfl⟩) (by decide) l1 rfl rfl hl.1 rfl (by first | exact Nat.le_of_ble_eq_true rfl | decide) dX3_highestCliff_19 ⟨Nat.zero_le _, Nat.zero_le _⟩) ?_
      refine lv_icmp_le (tgt := 27) hx hb dX3_highestCliff_22 (by decide) (fun c22 => ?_) (fun c22 => ?_)
      · refine lv_iinc (v := nI (i + 1)) (lv' := [(2, _), (1, _), (0, _)]) hx hb dX3_highestCliff_27 hl (k := 0) rfl (inc1 i) (by decide) rfl (fun ls hl => ?_)
        refine lv_goto (tgt := 4) hx hb dX3_highestCliff_30 (by decide) ?_
        exact ih (i + 1) _ (by omega) (by omega) (by rw [hcl, ← hA]; rw [chh_nI hi (by omega) (by omega)] at c22; first | simp [hi, Int32.not_le.mp c22] | simp [Int32.not_lt.mpr c22]) ls (lv_sub hl [0, 1, 2] rfl)
      · refine lv_iload_n hx hb dX3_highestCliff_25 rfl (lv_at hl 0 rfl) ?_
        refine lv_istore_n (lv' := [(1, _), (2, _), (0, _)]) hx hb dX3_highestCliff_26 rfl hl (by decide) rfl (fun ls hl => ?_)
        refine lv_iinc (v := nI (i + 1)) (lv' := [(2, _), (1, _), (0, _)]) hx hb dX3_highestCliff_27 hl (k := 1) rfl (inc1 i) (by decide) rfl (fun ls hl => ?_)
        refine lv_goto (tgt := 4) hx hb dX3_highestCliff_30 (by decide) ?_
        exact ih (i + 1) _ (by omega) (by omega) (by rw [hcl, ← hA]; rw [chh_nI hi (by omega) (by omega)] at c22; first | simp [hi, Int32.not_le.mp c22] | simp [Int32.not_lt.mpr c22]) ls (lv_sub hl [0, 1, 2] rfl)
  exact L4 (m0 - 1) 1 (-1) (by omega) (by omega) (by simp [hcl]) ls (lv_sub hl [0, 1, 2] rfl)
set_option maxHeartbeats 4000000 in
set_option maxRecDepth 100000 in
theorem k_X3_longestLevel (l : Launch) {G : GT} {c : Nat → va_E} {m0 : Nat} {g : Nat → Int32} (l1 : c 16 = .inr (2, [.ref (gad G 17), .int (nI m0)])) (l2 : c 17 = .inl (gI G, 100, .inl g)) (hm : m0 ≤ 100) (hm1 : 1 ≤ m0) : Met l yX3_longestLevel (wv yX3_longestLevel cX3_longestLevel 4 (some .int)) ({ frames := 1, cells := 0, slots := 0, locals := 21 } : Room) (va_Pc [.ref (gad G 16)] (fun U => Hw G c U U.heap)) (vp_Si (fun r => r = (lvl g m0).1)) 0 0 (fun _ => False) := by
  refine en (by decide +kernel) (by first | exact Nat.le_of_ble_eq_true rfl | decide) ?_
  intro p e s m below meth cd ls hx hb hr hml hown hts hlocks hnm hw hl
  have hl : lv_has ls 4 [(0, .ref (gad G 16))] := hl
  refine lv_iconst (v := 1) hx hb dX3_longestLevel_0 (by decide) ?_
  refine lv_istore_n (lv' := [(1, _), (0, _)]) hx hb dX3_longestLevel_1 rfl hl (by decide) rfl (fun ls hl => ?_)
  refine lv_iconst (v := 1) hx hb dX3_longestLevel_2 (by decide) ?_
  refine lv_istore_n (lv' := [(2, _), (1, _), (0, _)]) hx hb dX3_longestLevel_3 rfl hl (by decide) rfl (fun ls hl => ?_)
  refine lv_iconst (v := 1) hx hb dX3_longestLevel_4 (by decide) ?_
  refine lv_istore_n (lv' := [(3, _), (2, _), (1, _), (0, _)]) hx hb dX3_longestLevel_5 rfl hl (by decide) rfl (fun ls hl => ?_)
  have L6 : ∀ (N : Nat) (i : Nat) (x y : Int32), (i + N = m0) → (1 ≤ i) → ((x, y) = lvl g i) → ∀ ls : Array Slot, lv_has ls 4 [(3, .int (nI i)), (2, .int y), (1, .int x), (0, .ref (gad G 16))] → W p l e ({ frames := 1, cells := 0, slots := 0, locals := 21 } : Room) s m (([.ref (gad G 16)] : List Value).toArray) below meth cd s.heap [] 0 0 (MQ below (vp_Si (fun r => r = (lvl g m0).1)) ([.ref (gad G 16)] : List Value).toArray s 0 0 (fun _ => False)) (F0 m 6 ls []) := by
    intro N
    induction N with
    | zero =>
      intro i  x y  hN hi hA ls hl
      obtain rfl : i = m0 := by omega
      refine lv_iload_n hx hb dX3_longestLevel_6 rfl (lv_at hl 0 rfl) ?_
      refine lv_aload_n hx hb dX3_longestLevel_7 rfl (lv_at hl 3 rfl) ?_
      refine w_get (C := RX3) (T := TX3) (N := 2) 1 hx hb hts inX3 hown hw (by decide) l1 rfl (by decide) (hts _ tw_129) rfl dX3_longestLevel_8 ?_
      refine lv_icmp_ge (tgt := 42) hx hb dX3_longestLevel_11 (by decide) (fun c11 => ?_) (fun q => absurd (Int32.le_refl _) q)
      refine lv_iload_n hx hb dX3_longestLevel_42 rfl (lv_at hl 2 rfl) ?_
      exact re_S hx hb hr hlocks (rfl) dX3_longestLevel_43 (by rw [← hA])
    | succ N ih =>
      intro i  x y  hN hi hA ls hl
      refine lv_iload_n hx hb dX3_longestLevel_6 rfl (lv_at hl 0 rfl) ?_
      refine lv_aload_n hx hb dX3_longestLevel_7 rfl (lv_at hl 3 rfl) ?_
      refine w_get (C := RX3) (T := TX3) (N := 2) 1 hx hb hts inX3 hown hw (by decide) l1 rfl (by decide) (hts _ tw_129) rfl dX3_longestLevel_8 ?_
      refine lv_icmp_ge (tgt := 42) hx hb dX3_longestLevel_11 (by decide) (fun q => absurd q (nI_ge (by omega) (by omega))) (fun c11 => ?_)
      refine lv_aload_n hx hb dX3_longestLevel_14 rfl (lv_at hl 3 rfl) ?_
      refine lv_iload_n hx hb dX3_longestLevel_15 rfl (lv_at hl 0 rfl) ?_
      refine cSe (rV (As := [_]) ⟨hx, hb, hml, hown, hts⟩ hw (k_X3_isJump l l1 l2 hm (by omega) hi) (cv_X3_isJump hts tw_391 rfl rfl ⟨Nat.le_of_ble_eq_true rfl, Nat.le_of_ble_eq_true rfl⟩) (by decide) l1 rfl rfl hl.1 rfl (by first | exact Nat.le_of_ble_eq_true rfl | decide) dX3_longestLevel_16 ⟨Nat.zero_le _, Nat.zero_le _⟩) ?_
      refine zb_eq (tgt := 26) hx hb dX3_longestLevel_19 (by decide) (fun c19 => ?_) (fun c19 => ?_)
      · refine lv_iload_n hx hb dX3_longestLevel_26 rfl (lv_at hl 1 rfl) ?_
        refine lv_iconst (v := 1) hx hb dX3_longestLevel_27 (by decide) ?_
        refine lv_iadd hx hb dX3_longestLevel_28 ?_
        refine lv_istore_n (lv' := [(2, _), (3, _), (1, _), (0, _)]) hx hb dX3_longestLevel_29 rfl hl (by decide) rfl (fun ls hl => ?_)
        refine lv_iload_n hx hb dX3_longestLevel_30 rfl (lv_at hl 2 rfl) ?_
        refine lv_iload_n hx hb dX3_longestLevel_31 rfl (lv_at hl 0 rfl) ?_
        refine va_mmax hx hb (hml.trans hl.1.symm) hown (hts _ tw_407) (hts _ tw_325) (hts _ tw_13) (hts _ tw_326) (Nat.le_of_ble_eq_true rfl) (Nat.le_of_ble_eq_true rfl) (Nat.zero_le _) (Nat.zero_le _) dX3_longestLevel_32 ?_
        refine lv_istore_n (lv' := [(1, _), (2, _), (3, _), (0, _)]) hx hb dX3_longestLevel_35 rfl hl (by decide) rfl (fun ls hl => ?_)
        refine lv_iinc (v := nI (i + 1)) (lv' := [(3, _), (1, _), (2, _), (0, _)]) hx hb dX3_longestLevel_36 hl (k := 2) rfl (inc1 i) (by decide) rfl (fun ls hl => ?_)
        refine lv_goto (tgt := 6) hx hb dX3_longestLevel_39 (by decide) ?_
        exact ih (i + 1) _ _ (by omega) (by omega) (by rw [lvl, if_neg (show ¬ i = 0 by omega), ← hA]; simp [c19]) ls (lv_sub hl [0, 2, 1, 3] rfl)
      · refine lv_iconst (v := 1) hx hb dX3_longestLevel_22 (by decide) ?_
        refine lv_goto (tgt := 29) hx hb dX3_longestLevel_23 (by decide) ?_
        refine lv_istore_n (lv' := [(2, _), (3, _), (1, _), (0, _)]) hx hb dX3_longestLevel_29 rfl hl (by decide) rfl (fun ls hl => ?_)
        refine lv_iload_n hx hb dX3_longestLevel_30 rfl (lv_at hl 2 rfl) ?_
        refine lv_iload_n hx hb dX3_longestLevel_31 rfl (lv_at hl 0 rfl) ?_
        refine va_mmax hx hb (hml.trans hl.1.symm) hown (hts _ tw_407) (hts _ tw_325) (hts _ tw_13) (hts _ tw_326) (Nat.le_of_ble_eq_true rfl) (Nat.le_of_ble_eq_true rfl) (Nat.zero_le _) (Nat.zero_le _) dX3_longestLevel_32 ?_
        refine lv_istore_n (lv' := [(1, _), (2, _), (3, _), (0, _)]) hx hb dX3_longestLevel_35 rfl hl (by decide) rfl (fun ls hl => ?_)
        refine lv_iinc (v := nI (i + 1)) (lv' := [(3, _), (1, _), (2, _), (0, _)]) hx hb dX3_longestLevel_36 hl (k := 2) rfl (inc1 i) (by decide) rfl (fun ls hl => ?_)
        refine lv_goto (tgt := 6) hx hb dX3_longestLevel_39 (by decide) ?_
        exact ih (i + 1) _ _ (by omega) (by omega) (by rw [lvl, if_neg (show ¬ i = 0 by omega), ← hA]; simp [c19]) ls (lv_sub hl [0, 2, 1, 3] rfl)
  exact L6 (m0 - 1) 1 1 1 (by omega) (by omega) (by simp [lvl]) ls (lv_sub hl [0, 1, 2, 3] rfl)
set_option maxHeartbeats 4000000 in
set_option maxRecDepth 100000 in
theorem k_X3_farthestFromZero (l : Launch) {G : GT} {c : Nat → va_E} {m0 : Nat} {g : Nat → Int32} (l1 : c 16 = .inr (2, [.ref (gad G 17), .int (nI m0)])) (l2 : c 17 = .inl (gI G, 100, .inl g)) (hm : m0 ≤ 100) : Met l yX3_farthestFromZero (wv yX3_farthestFromZero cX3_farthestFromZero 3 (some .int)) ({ frames := 1, cells := 0, slots := 0, locals := 21 } : Room) (va_Pc [.ref (gad G 16)] (fun U => Hw G c U U.heap)) (vp_Si (fun r => r = far g m0)) 0 0 (fun _ => False) := by
  refine en (by decide +kernel) (by first | exact Nat.le_of_ble_eq_true rfl | decide) ?_
  intro p e s m below meth cd ls hx hb hr hml hown hts hlocks hnm hw hl
  have hl : lv_has ls 3 [(0, .ref (gad G 16))] := hl
  refine lv_iconst (v := 0) hx hb dX3_farthestFromZero_0 (by decide) ?_
  refine lv_istore_n (lv' := [(1, _), (0, _)]) hx hb dX3_farthestFromZero_1 rfl hl (by decide) rfl (fun ls hl => ?_)
  refine lv_iconst (v := 0) hx hb dX3_farthestFromZero_2 (by decide) ?_
  refine lv_istore_n (lv' := [(2, _), (1, _), (0, _)]) hx hb dX3_farthestFromZero_3 rfl hl (by decide) rfl (fun ls hl => ?_)
  have L4 : ∀ (N : Nat) (i : Nat) (x : Int32), (i + N = m0) → (x = far g i) → ∀ ls : Array Slot, lv_has ls 3 [(2, .int (nI i)), (1, .int x), (0, .ref (gad G 16))] → W p l e ({ frames := 1, cells := 0, slots := 0, locals := 21 } : Room) s m (([.ref (gad G 16)] : List Value).toArray) below meth cd s.heap [] 0 0 (MQ below (vp_Si (fun r => r = far g m0)) ([.ref (gad G 16)] : List Value).toArray s 0 0 (fun _ => False)) (F0 m 4 ls []) := by
    intro N
    induction N with
    | zero =>
      intro i  x  hN hA ls hl
      obtain rfl : i = m0 := by omega
      refine lv_iload_n hx hb dX3_farthestFromZero_4 rfl (lv_at hl 0 rfl) ?_
      refine lv_aload_n hx hb dX3_farthestFromZero_5 rfl (lv_at hl 2 rfl) ?_
      refine w_get (C := RX3) (T := TX3) (N := 2) 1 hx hb hts inX3 hown hw (by decide) l1 rfl (by decide) (hts _ tw_129) rfl dX3_farthestFromZero_6 ?_
      refine lv_icmp_ge (tgt := 32) hx hb dX3_farthestFromZero_9 (by decide) (fun c9 => ?_) (fun q => absurd (Int32.le_refl _) q)
      refine lv_iload_n hx hb dX3_farthestFromZero_32 rfl (lv_at hl 1 rfl) ?_
      exact re_S hx hb hr hlocks (rfl) dX3_farthestFromZero_33 (hA)
    | succ N ih =>
      intro i  x  hN hA ls hl
      refine lv_iload_n hx hb dX3_farthestFromZero_4 rfl (lv_at hl 0 rfl) ?_
      refine lv_aload_n hx hb dX3_farthestFromZero_5 rfl (lv_at hl 2 rfl) ?_
      refine w_get (C := RX3) (T := TX3) (N := 2) 1 hx hb hts inX3 hown hw (by decide) l1 rfl (by decide) (hts _ tw_129) rfl dX3_farthestFromZero_6 ?_
      refine lv_icmp_ge (tgt := 32) hx hb dX3_farthestFromZero_9 (by decide) (fun q => absurd q (nI_ge (by omega) (by omega))) (fun c9 => ?_)
      refine lv_iload_n hx hb dX3_farthestFromZero_12 rfl (lv_at hl 1 rfl) ?_
      refine lv_aload_n hx hb dX3_farthestFromZero_13 rfl (lv_at hl 2 rfl) ?_
      refine w_get (C := RX3) (T := TX3) (N := 2) 0 hx hb hts inX3 hown hw (by decide) l1 rfl (by decide) (hts _ tw_128) rfl dX3_farthestFromZero_14 ?_
      refine lv_iload_n hx hb dX3_farthestFromZero_17 rfl (lv_at hl 0 rfl) ?_
      refine w_ialdN (j := i) hx hb hw (by decide) l2 (rfl) (by omega) (by decide) dX3_farthestFromZero_18 ?_
      refine va_mabs hx hb (hml.trans hl.1.symm) hown (hts _ tw_516) (hts _ tw_517) (hts _ tw_13) (hts _ tw_518) (Nat.le_of_ble_eq_true rfl) (Nat.le_of_ble_eq_true rfl) (Nat.zero_le _) (Nat.zero_le _) dX3_farthestFromZero_19 ?_
      refine va_mmax hx hb (hml.trans hl.1.symm) hown (hts _ tw_407) (hts _ tw_325) (hts _ tw_13) (hts _ tw_326) (Nat.le_of_ble_eq_true rfl) (Nat.le_of_ble_eq_true rfl) (Nat.zero_le _) (Nat.zero_le _) dX3_farthestFromZero_22 ?_
      refine lv_istore_n (lv' := [(1, _), (2, _), (0, _)]) hx hb dX3_farthestFromZero_25 rfl hl (by decide) rfl (fun ls hl => ?_)
      refine lv_iinc (v := nI (i + 1)) (lv' := [(2, _), (1, _), (0, _)]) hx hb dX3_farthestFromZero_26 hl (k := 1) rfl (inc1 i) (by decide) rfl (fun ls hl => ?_)
      refine lv_goto (tgt := 4) hx hb dX3_farthestFromZero_29 (by decide) ?_
      exact ih (i + 1) _ (by omega) (by rw [far, ← hA]; rfl) ls (lv_sub hl [0, 1, 2] rfl)
  exact L4 m0 0 0 (by omega) rfl ls (lv_sub hl [0, 1, 2] rfl)
set_option maxHeartbeats 4000000 in
set_option maxRecDepth 100000 in
theorem k_X3_follow (l : Launch) {G : GT} {c : Nat → va_E} {m0 : Nat} {g : Nat → Int32} (l1 : c 16 = .inr (2, [.ref (gad G 17), .int (nI m0)])) (l2 : c 17 = .inl (gI G, 100, .inl g)) (hm : m0 ≤ 100) {n : Nat} {f : Nat → Int32} (h1 : c 1 = .inr (0, [.ref (gad G 2), .int (nI n)])) (h2 : c 2 = .inl (gI G, 132, .inl f)) (hn : n ≤ 12) {p0 : Nat} {d t : Int32} (hp0 : p0 < 25600000) (ht : t = 0 ∨ t = 1 ∨ t = 2 ∨ t = 3) : Met l yX3_follow (wv yX3_follow cX3_follow 6 none) ({ frames := 4, cells := 0, slots := 0, locals := 96 } : Room) (va_Pc [.ref (gad G 16), .ref (gad G 1), .int (nI p0), .int d, .int t] (fun U => Hw G c U U.heap)) (va_Qv (fun c9 : Nat → va_E => c9 = va_up (va_up c 16 (.inr (2, [.ref (gad G 17), .int (nI (szN t))]))) 17 (.inl (gI G, 100, .inl (flF f n p0 d t g (szN t))))) (fun c9 t => Hw G c9 t t.heap) (gA G)) 0 0 (gA G) := by
  refine en (by decide +kernel) (by first | exact Nat.le_of_ble_eq_true rfl | decide) ?_
  intro p e s m below meth cd ls hx hb hr hml hown hts hlocks hnm hw hl
  have hl : lv_has ls 6 [(0, .ref (gad G 16)), (1, .ref (gad G 1)), (2, .int (nI p0)), (3, .int d), (4, .int t)] := hl
  have hX : Sw G s s.heap := hw.2.2.2.2.2
  have hS : va_S (gA G) s.heap s.heap [] := va_S.rf
  obtain ⟨H, hH⟩ : ∃ wz9, wz9 = s.heap := ⟨_, rfl⟩
  obtain ⟨locs, hlocs⟩ : ∃ wz9 : List Loc, wz9 = [] := ⟨_, rfl⟩
  have hw : Hw G c s H := by rw [hH]; exact hw
  have hS : va_S (gA G) s.heap H locs := by rw [hH, hlocs]; exact hS
  suffices hgo : W p l e ({ frames := 4, cells := 0, slots := 0, locals := 96 } : Room) s m (([.ref (gad G 16), .ref (gad G 1), .int (nI p0), .int d, .int t] : List Value).toArray) below meth cd H locs 0 0 (MQ below (va_Qv (fun c9 : Nat → va_E => c9 = va_up (va_up c 16 (.inr (2, [.ref (gad G 17), .int (nI (szN t))]))) 17 (.inl (gI G, 100, .inl (flF f n p0 d t g (szN t))))) (fun c9 t => Hw G c9 t t.heap) (gA G)) ([.ref (gad G 16), .ref (gad G 1), .int (nI p0), .int d, .int t] : List Value).toArray s 0 0 (gA G)) (F0 m 0 ls []) by rw [hH, hlocs] at hgo; exact hgo
  refine lv_aload_n hx hb dX3_follow_0 rfl (lv_at hl 0 rfl) ?_
  refine lv_iload hx hb dX3_follow_1 (lv_at hl 4 rfl) ?_
  refine cSe (rST (As := [_]) ⟨hx, hb, hml, hown, hts⟩ (k_X9_last l ) (cv_X9_last hts tw_366 rfl rfl ⟨Nat.le_of_ble_eq_true rfl, Nat.le_of_ble_eq_true rfl⟩) rfl hl.1 rfl (by first | exact Nat.le_of_ble_eq_true rfl | decide) dX3_follow_3 ⟨Nat.zero_le _, Nat.zero_le _⟩) ?_
  refine lv_iconst (v := 1) hx hb dX3_follow_6 (by decide) ?_
  refine lv_iadd hx hb dX3_follow_7 ?_
  refine tp (y := nI (szN t)) (sz_last ht) ?_
  have hz := sz_le ht
  refine w_put (C := RX3) (T := TX3) (N := 2) (v := .int (nI (szN t))) 1 tyX3 hx hb hts inX3 tyX3_ok nmX3 hown hw hX hS (by decide) l1 rfl (by decide) (hts _ tw_129) rfl rfl (rfl) (rfl) (Nat.le_of_ble_eq_true rfl) dX3_follow_8 (fun H locs hw hS => ?_)
  obtain ⟨w2, ew2⟩ : ∃ wz9 : Nat → va_E, wz9 = va_up c 16 (.inr (2, [.ref (gad G 17), .int (nI (szN t))])) := ⟨_, rfl⟩
  have hw : Hw G w2 s H := by rw [ew2]; exact hw
  have l1_2 : w2 16 = .inr (2, [.ref (gad G 17), .int (nI (szN t))]) := by rw [ew2]; exact vu_s
  have l2_2 : w2 17 = .inl (gI G, 100, .inl g) := by rw [ew2]; exact vu_e (by decide) l2
  have h1_2 : w2 1 = .inr (0, [.ref (gad G 2), .int (nI n)]) := by rw [ew2]; exact vu_e (by decide) h1
  have h2_2 : w2 2 = .inl (gI G, 132, .inl f) := by rw [ew2]; exact vu_e (by decide) h2
  refine lv_iconst (v := 0) hx hb dX3_follow_11 (by decide) ?_
  refine lv_istore (lv' := [(5, _), (0, _), (1, _), (2, _), (3, _), (4, _)]) hx hb dX3_follow_12 hl (by decide) rfl (fun ls hl => ?_)
  have L14 : ∀ (N : Nat) (i : Nat) (fz : Nat → Int32), (i + N = szN t) → (fz = flF f n p0 d t g i) → ∀ (c0 : Nat → va_E) (H : Heap) (locs : List Loc), (c0 = va_up (va_up c 16 (.inr (2, [.ref (gad G 17), .int (nI (szN t))]))) 17 (.inl (gI G, 100, .inl fz))) → Hw G c0 s H → va_S (gA G) s.heap H locs → ∀ ls : Array Slot, lv_has ls 6 [(5, .int (nI i)), (4, .int t), (3, .int d), (2, .int (nI p0)), (1, .ref (gad G 1)), (0, .ref (gad G 16))] → W p l e ({ frames := 4, cells := 0, slots := 0, locals := 96 } : Room) s m (([.ref (gad G 16), .ref (gad G 1), .int (nI p0), .int d, .int t] : List Value).toArray) below meth cd H locs 0 0 (MQ below (va_Qv (fun c9 : Nat → va_E => c9 = va_up (va_up c 16 (.inr (2, [.ref (gad G 17), .int (nI (szN t))]))) 17 (.inl (gI G, 100, .inl (flF f n p0 d t g (szN t))))) (fun c9 t => Hw G c9 t t.heap) (gA G)) ([.ref (gad G 16), .ref (gad G 1), .int (nI p0), .int d, .int t] : List Value).toArray s 0 0 (gA G)) (F0 m 14 ls []) := by
    intro N
    induction N with
    | zero =>
      intro i  fz  hN hz1 c0 H locs e0 hw hS ls hl
      obtain rfl : i = szN t := by omega
      have l1 : c0 16 = .inr (2, [.ref (gad G 17), .int (nI (szN t))]) := by rw [e0]; exact vu_e (by decide) vu_s
      refine lv_iload hx hb dX3_follow_14 (lv_at hl 0 rfl) ?_
      refine lv_aload_n hx hb dX3_follow_16 rfl (lv_at hl 5 rfl) ?_
      refine w_get (C := RX3) (T := TX3) (N := 2) 1 hx hb hts inX3 hown hw (by decide) l1 rfl (by decide) (hts _ tw_129) rfl dX3_follow_17 ?_
      refine lv_icmp_ge (tgt := 49) hx hb dX3_follow_20 (by decide) (fun c20 => ?_) (fun q => absurd (Int32.le_refl _) q)
      exact re_V hx hb hr hlocks hw hS dX3_follow_49 (by rw [e0, hz1])
    | succ N ih =>
      intro i  fz  hN hz1 c0 H locs e0 hw hS ls hl
      have l1 : c0 16 = .inr (2, [.ref (gad G 17), .int (nI (szN t))]) := by rw [e0]; exact vu_e (by decide) vu_s
      have l2 : c0 17 = .inl (gI G, 100, .inl fz) := by rw [e0]; exact vu_s
      have h1 : c0 1 = .inr (0, [.ref (gad G 2), .int (nI n)]) := by rw [e0]; exact vu_e (by decide) (vu_e (by decide) h1)
      have h2 : c0 2 = .inl (gI G, 132, .inl f) := by rw [e0]; exact vu_e (by decide) (vu_e (by decide) h2)
      refine lv_iload hx hb dX3_follow_14 (lv_at hl 0 rfl) ?_
      refine lv_aload_n hx hb dX3_follow_16 rfl (lv_at hl 5 rfl) ?_
      refine w_get (C := RX3) (T := TX3) (N := 2) 1 hx hb hts inX3 hown hw (by decide) l1 rfl (by decide) (hts _ tw_129) rfl dX3_follow_17 ?_
      refine lv_icmp_ge (tgt := 49) hx hb dX3_follow_20 (by decide) (fun q => absurd q (nI_ge (by omega) (by omega))) (fun c20 => ?_)
      refine lv_aload_n hx hb dX3_follow_23 rfl (lv_at hl 5 rfl) ?_
      refine w_get (C := RX3) (T := TX3) (N := 2) 0 hx hb hts inX3 hown hw (by decide) l1 rfl (by decide) (hts _ tw_128) rfl dX3_follow_24 ?_
      refine lv_iload hx hb dX3_follow_27 (lv_at hl 0 rfl) ?_
      refine lv_aload_n hx hb dX3_follow_29 rfl (lv_at hl 4 rfl) ?_
      refine lv_iload_n hx hb dX3_follow_30 rfl (lv_at hl 3 rfl) ?_
      refine lv_iload hx hb dX3_follow_31 (lv_at hl 1 rfl) ?_
      refine lv_iload hx hb dX3_follow_33 (lv_at hl 0 rfl) ?_
      refine cSe (rST (As := [_, _, _]) ⟨hx, hb, hml, hown, hts⟩ (k_X9_changed l hp0 ht) (cv_X9_changed hts tw_367 rfl rfl ⟨Nat.le_of_ble_eq_true rfl, Nat.le_of_ble_eq_true rfl⟩) rfl hl.1 rfl (by first | exact Nat.le_of_ble_eq_true rfl | decide) dX3_follow_35 ⟨Nat.zero_le _, Nat.zero_le _⟩) ?_
      refine lv_iload_n hx hb dX3_follow_38 rfl (lv_at hl 2 rfl) ?_
      refine cSe (rV (As := [_, _]) ⟨hx, hb, hml, hown, hts⟩ hw (k_X1_total l (by decide) (by decide) h1 h2 hn (wth_lt hp0 ht (by omega))) (cv_X1_total hts tw_374 rfl rfl ⟨Nat.le_of_ble_eq_true rfl, Nat.le_of_ble_eq_true rfl⟩) (by decide) h1 rfl rfl hl.1 rfl (by first | exact Nat.le_of_ble_eq_true rfl | decide) dX3_follow_39 ⟨Nat.zero_le _, Nat.zero_le _⟩) ?_
      refine w_iastN (j := i) (x := ocm f n (wthN p0 t i) d) hx hb hw hX hS (by decide) l2 (rfl) (by omega) (by decide) dX3_follow_42 (fun H locs hw hS => ?_)
      obtain ⟨w3, ew3⟩ : ∃ wz9 : Nat → va_E, wz9 = va_up c0 17 (.inl (gI G, 100, .inl (upd fz (i) (ocm f n (wthN p0 t i) d)))) := ⟨_, rfl⟩
      have hw : Hw G w3 s H := by rw [ew3]; exact hw
      have l1_3 : w3 16 = .inr (2, [.ref (gad G 17), .int (nI (szN t))]) := by rw [ew3]; exact vu_e (by decide) l1
      have l2_3 : w3 17 = .inl (gI G, 100, .inl (upd fz (i) (ocm f n (wthN p0 t i) d))) := by rw [ew3]; exact vu_s
      have h1_3 : w3 1 = .inr (0, [.ref (gad G 2), .int (nI n)]) := by rw [ew3]; exact vu_e (by decide) h1
      have h2_3 : w3 2 = .inl (gI G, 132, .inl f) := by rw [ew3]; exact vu_e (by decide) h2
      refine lv_iinc (v := nI (i + 1)) (lv' := [(5, _), (4, _), (3, _), (2, _), (1, _), (0, _)]) hx hb dX3_follow_43 hl (k := 0) rfl (inc1 i) (by decide) rfl (fun ls hl => ?_)
      refine lv_goto (tgt := 14) hx hb dX3_follow_46 (by decide) ?_
      exact ih (i + 1) (flF f n p0 d t g (i + 1)) (by omega) rfl _ H locs (by rw [ew3, e0, up_up, hz1, flF_s]) hw hS ls (lv_sub hl [0, 1, 2, 3, 4, 5] rfl)
  exact L14 (szN t) 0 g (by omega) (flF_0 f n p0 d t g).symm _ H locs (by rw [ew2]; exact (up_id (by rw [vu_n (by decide)]; exact l2)).symm) hw hS ls (lv_sub hl [0, 5, 4, 3, 2, 1] rfl)
set_option maxHeartbeats 4000000 in
set_option maxRecDepth 100000 in
theorem k_X3_lessen (l : Launch) {G : GT} {c : Nat → va_E} {m0 : Nat} {g : Nat → Int32} (l1 : c 16 = .inr (2, [.ref (gad G 17), .int (nI m0)])) (l2 : c 17 = .inl (gI G, 100, .inl g)) (hm : m0 ≤ 100) {n : Nat} {f : Nat → Int32} (h1 : c 3 = .inr (0, [.ref (gad G 4), .int (nI n)])) (h2 : c 4 = .inl (gI G, 132, .inl f)) (hn : n ≤ 12) {p0 : Nat} {d t : Int32} (hp0 : p0 < 25600000) (ht : t = 0 ∨ t = 1 ∨ t = 2 ∨ t = 3) (hm9 : m0 = szN t) : Met l yX3_lessen (wv yX3_lessen cX3_lessen 6 none) ({ frames := 4, cells := 0, slots := 0, locals := 96 } : Room) (va_Pc [.ref (gad G 16), .ref (gad G 3), .int (nI p0), .int d, .int t] (fun U => Hw G c U U.heap)) (va_Qv (fun c9 : Nat → va_E => c9 = va_up c 17 (.inl (gI G, 100, .inl (lsF f n p0 d t g m0)))) (fun c9 t => Hw G c9 t t.heap) (gA G)) 0 0 (gA G) := by
  refine en (by decide +kernel) (by first | exact Nat.le_of_ble_eq_true rfl | decide) ?_
  intro p e s m below meth cd ls hx hb hr hml hown hts hlocks hnm hw hl
  have hl : lv_has ls 6 [(0, .ref (gad G 16)), (1, .ref (gad G 3)), (2, .int (nI p0)), (3, .int d), (4, .int t)] := hl
  have hX : Sw G s s.heap := hw.2.2.2.2.2
  have hS : va_S (gA G) s.heap s.heap [] := va_S.rf
  obtain ⟨H, hH⟩ : ∃ wz9, wz9 = s.heap := ⟨_, rfl⟩
  obtain ⟨locs, hlocs⟩ : ∃ wz9 : List Loc, wz9 = [] := ⟨_, rfl⟩
  have hw : Hw G c s H := by rw [hH]; exact hw
  have hS : va_S (gA G) s.heap H locs := by rw [hH, hlocs]; exact hS
  suffices hgo : W p l e ({ frames := 4, cells := 0, slots := 0, locals := 96 } : Room) s m (([.ref (gad G 16), .ref (gad G 3), .int (nI p0), .int d, .int t] : List Value).toArray) below meth cd H locs 0 0 (MQ below (va_Qv (fun c9 : Nat → va_E => c9 = va_up c 17 (.inl (gI G, 100, .inl (lsF f n p0 d t g m0)))) (fun c9 t => Hw G c9 t t.heap) (gA G)) ([.ref (gad G 16), .ref (gad G 3), .int (nI p0), .int d, .int t] : List Value).toArray s 0 0 (gA G)) (F0 m 0 ls []) by rw [hH, hlocs] at hgo; exact hgo
  refine lv_iconst (v := 0) hx hb dX3_lessen_0 (by decide) ?_
  refine lv_istore (lv' := [(5, _), (0, _), (1, _), (2, _), (3, _), (4, _)]) hx hb dX3_lessen_1 hl (by decide) rfl (fun ls hl => ?_)
  have L3 : ∀ (N : Nat) (i : Nat) (fz : Nat → Int32), (i + N = m0) → (fz = lsF f n p0 d t g i) → ∀ (c0 : Nat → va_E) (H : Heap) (locs : List Loc), (c0 = va_up c 17 (.inl (gI G, 100, .inl fz))) → Hw G c0 s H → va_S (gA G) s.heap H locs → ∀ ls : Array Slot, lv_has ls 6 [(5, .int (nI i)), (4, .int t), (3, .int d), (2, .int (nI p0)), (1, .ref (gad G 3)), (0, .ref (gad G 16))] → W p l e ({ frames := 4, cells := 0, slots := 0, locals := 96 } : Room) s m (([.ref (gad G 16), .ref (gad G 3), .int (nI p0), .int d, .int t] : List Value).toArray) below meth cd H locs 0 0 (MQ below (va_Qv (fun c9 : Nat → va_E => c9 = va_up c 17 (.inl (gI G, 100, .inl (lsF f n p0 d t g m0)))) (fun c9 t => Hw G c9 t t.heap) (gA G)) ([.ref (gad G 16), .ref (gad G 3), .int (nI p0), .int d, .int t] : List Value).toArray s 0 0 (gA G)) (F0 m 3 ls []) := by
    intro N
    induction N with
    | zero =>
      intro i  fz  hN hz1 c0 H locs e0 hw hS ls hl
      obtain rfl : i = m0 := by omega
      have l1 : c0 16 = .inr (2, [.ref (gad G 17), .int (nI i)]) := by rw [e0]; exact vu_e (by decide) l1
      refine lv_iload hx hb dX3_lessen_3 (lv_at hl 0 rfl) ?_
      refine lv_aload_n hx hb dX3_lessen_5 rfl (lv_at hl 5 rfl) ?_
      refine w_get (C := RX3) (T := TX3) (N := 2) 1 hx hb hts inX3 hown hw (by decide) l1 rfl (by decide) (hts _ tw_129) rfl dX3_lessen_6 ?_
      refine lv_icmp_ge (tgt := 41) hx hb dX3_lessen_9 (by decide) (fun c9 => ?_) (fun q => absurd (Int32.le_refl _) q)
      exact re_V hx hb hr hlocks hw hS dX3_lessen_41 (by rw [e0, hz1])
    | succ N ih =>
      intro i  fz  hN hz1 c0 H locs e0 hw hS ls hl
      have l1 : c0 16 = .inr (2, [.ref (gad G 17), .int (nI m0)]) := by rw [e0]; exact vu_e (by decide) l1
      have l2 : c0 17 = .inl (gI G, 100, .inl fz) := by rw [e0]; exact vu_s
      have h1 : c0 3 = .inr (0, [.ref (gad G 4), .int (nI n)]) := by rw [e0]; exact vu_e (by decide) h1
      have h2 : c0 4 = .inl (gI G, 132, .inl f) := by rw [e0]; exact vu_e (by decide) h2
      refine lv_iload hx hb dX3_lessen_3 (lv_at hl 0 rfl) ?_
      refine lv_aload_n hx hb dX3_lessen_5 rfl (lv_at hl 5 rfl) ?_
      refine w_get (C := RX3) (T := TX3) (N := 2) 1 hx hb hts inX3 hown hw (by decide) l1 rfl (by decide) (hts _ tw_129) rfl dX3_lessen_6 ?_
      refine lv_icmp_ge (tgt := 41) hx hb dX3_lessen_9 (by decide) (fun q => absurd q (nI_ge (by omega) (by omega))) (fun c9 => ?_)
      refine lv_aload_n hx hb dX3_lessen_12 rfl (lv_at hl 5 rfl) ?_
      refine w_get (C := RX3) (T := TX3) (N := 2) 0 hx hb hts inX3 hown hw (by decide) l1 rfl (by decide) (hts _ tw_128) rfl dX3_lessen_13 ?_
      refine lv_iload hx hb dX3_lessen_16 (lv_at hl 0 rfl) ?_
      refine lv_dup2_11 hx hb dX3_lessen_18 rfl rfl ?_
      refine w_ialdN (j := i) hx hb hw (by decide) l2 (rfl) (by omega) (by decide) dX3_lessen_19 ?_
      refine lv_aload_n hx hb dX3_lessen_20 rfl (lv_at hl 4 rfl) ?_
      refine lv_iload_n hx hb dX3_lessen_21 rfl (lv_at hl 3 rfl) ?_
      refine lv_iload hx hb dX3_lessen_22 (lv_at hl 1 rfl) ?_
      refine lv_iload hx hb dX3_lessen_24 (lv_at hl 0 rfl) ?_
      refine cSe (rST (As := [_, _, _]) ⟨hx, hb, hml, hown, hts⟩ (k_X9_changed l hp0 ht) (cv_X9_changed hts tw_367 rfl rfl ⟨Nat.le_of_ble_eq_true rfl, Nat.le_of_ble_eq_true rfl⟩) rfl hl.1 rfl (by first | exact Nat.le_of_ble_eq_true rfl | decide) dX3_lessen_26 ⟨Nat.zero_le _, Nat.zero_le _⟩) ?_
      refine lv_iload_n hx hb dX3_lessen_29 rfl (lv_at hl 2 rfl) ?_
      refine cSe (rV (As := [_, _]) ⟨hx, hb, hml, hown, hts⟩ hw (k_X1_total l (by decide) (by decide) h1 h2 hn (wth_lt hp0 ht (by omega))) (cv_X1_total hts tw_374 rfl rfl ⟨Nat.le_of_ble_eq_true rfl, Nat.le_of_ble_eq_true rfl⟩) (by decide) h1 rfl rfl hl.1 rfl (by first | exact Nat.le_of_ble_eq_true rfl | decide) dX3_lessen_30 ⟨Nat.zero_le _, Nat.zero_le _⟩) ?_
      refine lv_isub hx hb dX3_lessen_33 ?_
      refine w_iastN (j := i) (x := fz i - ocm f n (wthN p0 t i) d) hx hb hw hX hS (by decide) l2 (rfl) (by omega) (by decide) dX3_lessen_34 (fun H locs hw hS => ?_)
      obtain ⟨w1, ew1⟩ : ∃ wz9 : Nat → va_E, wz9 = va_up c0 17 (.inl (gI G, 100, .inl (upd fz (i) (fz i - ocm f n (wthN p0 t i) d)))) := ⟨_, rfl⟩
      have hw : Hw G w1 s H := by rw [ew1]; exact hw
      have l1_1 : w1 16 = .inr (2, [.ref (gad G 17), .int (nI m0)]) := by rw [ew1]; exact vu_e (by decide) l1
      have l2_1 : w1 17 = .inl (gI G, 100, .inl (upd fz (i) (fz i - ocm f n (wthN p0 t i) d))) := by rw [ew1]; exact vu_s
      have h1_1 : w1 3 = .inr (0, [.ref (gad G 4), .int (nI n)]) := by rw [ew1]; exact vu_e (by decide) h1
      have h2_1 : w1 4 = .inl (gI G, 132, .inl f) := by rw [ew1]; exact vu_e (by decide) h2
      refine lv_iinc (v := nI (i + 1)) (lv' := [(5, _), (4, _), (3, _), (2, _), (1, _), (0, _)]) hx hb dX3_lessen_35 hl (k := 0) rfl (inc1 i) (by decide) rfl (fun ls hl => ?_)
      refine lv_goto (tgt := 3) hx hb dX3_lessen_38 (by decide) ?_
      exact ih (i + 1) (lsF f n p0 d t g (i + 1)) (by omega) rfl _ H locs (by rw [ew1, e0, up_up, hz1, lsF_s]) hw hS ls (lv_sub hl [0, 1, 2, 3, 4, 5] rfl)
  exact L3 m0 0 g (by omega) (lsF_0 f n p0 d t g).symm _ H locs (up_id l2).symm hw hS ls (lv_sub hl [0, 5, 4, 3, 2, 1] rfl)
