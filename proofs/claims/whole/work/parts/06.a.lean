/-! leaves without a heap: what numbers may be, traits -/
def wn (v a b : Int32) : Bool := !decide (v < a) && !decide (b < v)
def isP (p : Int32) : Bool := wn p 0 25599999
def isDy (d : Int32) : Bool := wn d 0 999
def isSh (t : Int32) : Bool := wn t 0 3
def tlast (t : Int32) : Int32 := if t = 0 then 99 else if t = 1 then 99 else if t = 2 then 9 else if t = 3 then 7 else 31
def twt (t : Int32) : Int32 := if t = 0 then 1 else if t = 1 then 100 else if t = 2 then 10000 else if t = 3 then 100000 else 800000
/-- a trait of a profile -/
def trN (p : Nat) (t : Int32) : Nat := if t = 0 then p % 100 else if t = 1 then p / 100 % 100 else if t = 2 then p / 10000 % 10 else if t = 3 then p / 100000 % 8 else p / 800000
theorem rem_nI {a d : Nat} (ha : a < 2 ^ 31) (h0 : 0 < d) (hd : d < 2 ^ 31) : nI a - nI a / nI d * nI d = nI (a % d) := pk_rem ha h0 hd

set_option maxHeartbeats 4000000 in
set_option maxRecDepth 100000 in
theorem k_X10_within (l : Launch) {v a b : Int32} : Met l yX10_within (wv yX10_within cX10_within 3 (some .boolean)) ({ frames := 0, cells := 0, slots := 0, locals := 0 } : Room) (va_Pc [.int v, .int a, .int b] (fun _ => True)) (vp_Si (fun r => r = bi (wn v a b))) 0 0 (fun _ => False) := by
  refine en (by decide +kernel) (by first | exact Nat.le_of_ble_eq_true rfl | decide) ?_
  intro p e s m below meth cd ls hx hb hr hml hown hts hlocks hnm hw hl
  have hl : lv_has ls 3 [(0, .int v), (1, .int a), (2, .int b)] := hl
  refine lv_iload_n hx hb dX10_within_0 rfl (lv_at hl 0 rfl) ?_
  refine lv_iload_n hx hb dX10_within_1 rfl (lv_at hl 1 rfl) ?_
  refine lv_icmp_lt (tgt := 14) hx hb dX10_within_2 (by decide) (fun c2 => ?_) (fun c2 => ?_)
  · refine lv_iconst (v := 0) hx hb dX10_within_14 (by decide) ?_
    exact re_S hx hb hr hlocks (rfl) dX10_within_15 (by simp [wn, bi, c2])
  · refine lv_iload_n hx hb dX10_within_5 rfl (lv_at hl 0 rfl) ?_
    refine lv_iload_n hx hb dX10_within_6 rfl (lv_at hl 2 rfl) ?_
    refine lv_icmp_gt (tgt := 14) hx hb dX10_within_7 (by decide) (fun c7 => ?_) (fun c7 => ?_)
    · refine lv_iconst (v := 0) hx hb dX10_within_14 (by decide) ?_
      exact re_S hx hb hr hlocks (rfl) dX10_within_15 (by simp [wn, bi, c2, c7])
    · refine lv_iconst (v := 1) hx hb dX10_within_10 (by decide) ?_
      refine lv_goto (tgt := 15) hx hb dX10_within_11 (by decide) ?_
      exact re_S hx hb hr hlocks (rfl) dX10_within_15 (by simp [wn, bi, c2, c7])
set_option maxHeartbeats 4000000 in
set_option maxRecDepth 100000 in
theorem k_X11_in (l : Launch) {v a b : Int32} : Met l yX11_in (wv yX11_in cX11_in 3 (some .boolean)) ({ frames := 0, cells := 0, slots := 0, locals := 0 } : Room) (va_Pc [.int v, .int a, .int b] (fun _ => True)) (vp_Si (fun r => r = bi (wn v a b))) 0 0 (fun _ => False) := by
  refine en (by decide +kernel) (by first | exact Nat.le_of_ble_eq_true rfl | decide) ?_
  intro p e s m below meth cd ls hx hb hr hml hown hts hlocks hnm hw hl
  have hl : lv_has ls 3 [(0, .int v), (1, .int a), (2, .int b)] := hl
  refine lv_iload_n hx hb dX11_in_0 rfl (lv_at hl 0 rfl) ?_
  refine lv_iload_n hx hb dX11_in_1 rfl (lv_at hl 1 rfl) ?_
  refine lv_icmp_lt (tgt := 14) hx hb dX11_in_2 (by decide) (fun c2 => ?_) (fun c2 => ?_)
  · refine lv_iconst (v := 0) hx hb dX11_in_14 (by decide) ?_
    exact re_S hx hb hr hlocks (rfl) dX11_in_15 (by simp [wn, bi, c2])
  · refine lv_iload_n hx hb dX11_in_5 rfl (lv_at hl 0 rfl) ?_
    refine lv_iload_n hx hb dX11_in_6 rfl (lv_at hl 2 rfl) ?_
    refine lv_icmp_gt (tgt := 14) hx hb dX11_in_7 (by decide) (fun c7 => ?_) (fun c7 => ?_)
    · refine lv_iconst (v := 0) hx hb dX11_in_14 (by decide) ?_
      exact re_S hx hb hr hlocks (rfl) dX11_in_15 (by simp [wn, bi, c2, c7])
    · refine lv_iconst (v := 1) hx hb dX11_in_10 (by decide) ?_
      refine lv_goto (tgt := 15) hx hb dX11_in_11 (by decide) ?_
      exact re_S hx hb hr hlocks (rfl) dX11_in_15 (by simp [wn, bi, c2, c7])
set_option maxHeartbeats 4000000 in
set_option maxRecDepth 100000 in
theorem k_X10_isProfile (l : Launch) {v : Int32} : Met l yX10_isProfile (wv yX10_isProfile cX10_isProfile 1 (some .boolean)) ({ frames := 1, cells := 0, slots := 0, locals := 22 } : Room) (va_Pc [.int v] (fun _ => True)) (vp_Si (fun r => r = bi (isP v))) 0 0 (fun _ => False) := by
  refine en (by decide +kernel) (by first | exact Nat.le_of_ble_eq_true rfl | decide) ?_
  intro p e s m below meth cd ls hx hb hr hml hown hts hlocks hnm hw hl
  have hl : lv_has ls 1 [(0, .int v)] := hl
  refine lv_iload_n hx hb dX10_isProfile_0 rfl (lv_at hl 0 rfl) ?_
  refine lv_iconst (v := 0) hx hb dX10_isProfile_1 (by decide) ?_
  refine lv_ldcw (v := 25599999) hx hb hown (hts _ tw_279) dX10_isProfile_2 ?_
  refine cSe (rST (As := [_, _, _]) ⟨hx, hb, hml, hown, hts⟩ (k_X10_within l ) (cv_X10_within hts tw_209 rfl rfl ⟨Nat.le_of_ble_eq_true rfl, Nat.le_of_ble_eq_true rfl⟩) rfl hl.1 rfl (by first | exact Nat.le_of_ble_eq_true rfl | decide) dX10_isProfile_5 ⟨Nat.zero_le _, Nat.zero_le _⟩) ?_
  exact re_S hx hb hr hlocks (bi_n _) dX10_isProfile_8 (rfl)
set_option maxHeartbeats 4000000 in
set_option maxRecDepth 100000 in
theorem k_X10_isDay (l : Launch) {v : Int32} : Met l yX10_isDay (wv yX10_isDay cX10_isDay 1 (some .boolean)) ({ frames := 1, cells := 0, slots := 0, locals := 22 } : Room) (va_Pc [.int v] (fun _ => True)) (vp_Si (fun r => r = bi (isDy v))) 0 0 (fun _ => False) := by
  refine en (by decide +kernel) (by first | exact Nat.le_of_ble_eq_true rfl | decide) ?_
  intro p e s m below meth cd ls hx hb hr hml hown hts hlocks hnm hw hl
  have hl : lv_has ls 1 [(0, .int v)] := hl
  refine lv_iload_n hx hb dX10_isDay_0 rfl (lv_at hl 0 rfl) ?_
  refine lv_iconst (v := 0) hx hb dX10_isDay_1 (by decide) ?_
  refine lv_sipush (v := 999) hx hb dX10_isDay_2 (by decide) ?_
  refine cSe (rST (As := [_, _, _]) ⟨hx, hb, hml, hown, hts⟩ (k_X10_within l ) (cv_X10_within hts tw_209 rfl rfl ⟨Nat.le_of_ble_eq_true rfl, Nat.le_of_ble_eq_true rfl⟩) rfl hl.1 rfl (by first | exact Nat.le_of_ble_eq_true rfl | decide) dX10_isDay_5 ⟨Nat.zero_le _, Nat.zero_le _⟩) ?_
  exact re_S hx hb hr hlocks (bi_n _) dX10_isDay_8 (rfl)
set_option maxHeartbeats 4000000 in
set_option maxRecDepth 100000 in
theorem k_X10_isSheet (l : Launch) {v : Int32} : Met l yX10_isSheet (wv yX10_isSheet cX10_isSheet 1 (some .boolean)) ({ frames := 1, cells := 0, slots := 0, locals := 22 } : Room) (va_Pc [.int v] (fun _ => True)) (vp_Si (fun r => r = bi (isSh v))) 0 0 (fun _ => False) := by
  refine en (by decide +kernel) (by first | exact Nat.le_of_ble_eq_true rfl | decide) ?_
  intro p e s m below meth cd ls hx hb hr hml hown hts hlocks hnm hw hl
  have hl : lv_has ls 1 [(0, .int v)] := hl
  refine lv_iload_n hx hb dX10_isSheet_0 rfl (lv_at hl 0 rfl) ?_
  refine lv_iconst (v := 0) hx hb dX10_isSheet_1 (by decide) ?_
  refine lv_iconst (v := 3) hx hb dX10_isSheet_2 (by decide) ?_
  refine cSe (rST (As := [_, _, _]) ⟨hx, hb, hml, hown, hts⟩ (k_X10_within l ) (cv_X10_within hts tw_209 rfl rfl ⟨Nat.le_of_ble_eq_true rfl, Nat.le_of_ble_eq_true rfl⟩) rfl hl.1 rfl (by first | exact Nat.le_of_ble_eq_true rfl | decide) dX10_isSheet_3 ⟨Nat.zero_le _, Nat.zero_le _⟩) ?_
  exact re_S hx hb hr hlocks (bi_n _) dX10_isSheet_6 (rfl)
set_option maxHeartbeats 4000000 in
set_option maxRecDepth 100000 in
theorem k_X11_isProfile (l : Launch) {v : Int32} : Met l yX11_isProfile (wv yX11_isProfile cX11_isProfile 1 (some .boolean)) ({ frames := 1, cells := 0, slots := 0, locals := 22 } : Room) (va_Pc [.int v] (fun _ => True)) (vp_Si (fun r => r = bi (isP v))) 0 0 (fun _ => False) := by
  refine en (by decide +kernel) (by first | exact Nat.le_of_ble_eq_true rfl | decide) ?_
  intro p e s m below meth cd ls hx hb hr hml hown hts hlocks hnm hw hl
  have hl : lv_has ls 1 [(0, .int v)] := hl
  refine lv_iload_n hx hb dX11_isProfile_0 rfl (lv_at hl 0 rfl) ?_
  refine lv_iconst (v := 0) hx hb dX11_isProfile_1 (by decide) ?_
  refine lv_ldc (v := 25599999) hx hb hown (hts _ tw_1033) dX11_isProfile_2 ?_
  refine cSe (rST (As := [_, _, _]) ⟨hx, hb, hml, hown, hts⟩ (k_X11_in l ) (cv_X11_in hts tw_987 rfl rfl ⟨Nat.le_of_ble_eq_true rfl, Nat.le_of_ble_eq_true rfl⟩) rfl hl.1 rfl (by first | exact Nat.le_of_ble_eq_true rfl | decide) dX11_isProfile_4 ⟨Nat.zero_le _, Nat.zero_le _⟩) ?_
  exact re_S hx hb hr hlocks (bi_n _) dX11_isProfile_7 (rfl)
set_option maxHeartbeats 4000000 in
set_option maxRecDepth 100000 in
theorem k_X11_isDay (l : Launch) {v : Int32} : Met l yX11_isDay (wv yX11_isDay cX11_isDay 1 (some .boolean)) ({ frames := 1, cells := 0, slots := 0, locals := 22 } : Room) (va_Pc [.int v] (fun _ => True)) (vp_Si (fun r => r = bi (isDy v))) 0 0 (fun _ => False) := by
  refine en (by decide +kernel) (by first | exact Nat.le_of_ble_eq_true rfl | decide) ?_
  intro p e s m below meth cd ls hx hb hr hml hown hts hlocks hnm hw hl
  have hl : lv_has ls 1 [(0, .int v)] := hl
  refine lv_iload_n hx hb dX11_isDay_0 rfl (lv_at hl 0 rfl) ?_
  refine lv_iconst (v := 0) hx hb dX11_isDay_1 (by decide) ?_
  refine lv_sipush (v := 999) hx hb dX11_isDay_2 (by decide) ?_
  refine cSe (rST (As := [_, _, _]) ⟨hx, hb, hml, hown, hts⟩ (k_X11_in l ) (cv_X11_in hts tw_987 rfl rfl ⟨Nat.le_of_ble_eq_true rfl, Nat.le_of_ble_eq_true rfl⟩) rfl hl.1 rfl (by first | exact Nat.le_of_ble_eq_true rfl | decide) dX11_isDay_5 ⟨Nat.zero_le _, Nat.zero_le _⟩) ?_
  exact re_S hx hb hr hlocks (bi_n _) dX11_isDay_8 (rfl)
set_option maxHeartbeats 4000000 in
set_option maxRecDepth 100000 in
theorem k_X11_isSheet (l : Launch) {v : Int32} : Met l yX11_isSheet (wv yX11_isSheet cX11_isSheet 1 (some .boolean)) ({ frames := 1, cells := 0, slots := 0, locals := 22 } : Room) (va_Pc [.int v] (fun _ => True)) (vp_Si (fun r => r = bi (isSh v))) 0 0 (fun _ => False) := by
  refine en (by decide +kernel) (by first | exact Nat.le_of_ble_eq_true rfl | decide) ?_
  intro p e s m below meth cd ls hx hb hr hml hown hts hlocks hnm hw hl
  have hl : lv_has ls 1 [(0, .int v)] := hl
  refine lv_iload_n hx hb dX11_isSheet_0 rfl (lv_at hl 0 rfl) ?_
  refine lv_iconst (v := 0) hx hb dX11_isSheet_1 (by decide) ?_
  refine lv_iconst (v := 3) hx hb dX11_isSheet_2 (by decide) ?_
  refine cSe (rST (As := [_, _, _]) ⟨hx, hb, hml, hown, hts⟩ (k_X11_in l ) (cv_X11_in hts tw_987 rfl rfl ⟨Nat.le_of_ble_eq_true rfl, Nat.le_of_ble_eq_true rfl⟩) rfl hl.1 rfl (by first | exact Nat.le_of_ble_eq_true rfl | decide) dX11_isSheet_3 ⟨Nat.zero_le _, Nat.zero_le _⟩) ?_
  exact re_S hx hb hr hlocks (bi_n _) dX11_isSheet_6 (rfl)
set_option maxHeartbeats 4000000 in
set_option maxRecDepth 100000 in
theorem k_X10_isAlong (l : Launch) {a b t : Int32} : Met l yX10_isAlong (wv yX10_isAlong cX10_isAlong 3 (some .boolean)) ({ frames := 2, cells := 0, slots := 0, locals := 42 } : Room) (va_Pc [.int a, .int b, .int t] (fun _ => True)) (vp_Si (fun r => r = bi (isP a && isDy b && isSh t))) 0 0 (fun _ => False) := by
  refine en (by decide +kernel) (by first | exact Nat.le_of_ble_eq_true rfl | decide) ?_
  intro p e s m below meth cd ls hx hb hr hml hown hts hlocks hnm hw hl
  have hl : lv_has ls 3 [(0, .int a), (1, .int b), (2, .int t)] := hl
  refine lv_iload_n hx hb dX10_isAlong_0 rfl (lv_at hl 0 rfl) ?_
  refine cSe (rST (As := [_]) ⟨hx, hb, hml, hown, hts⟩ (k_X10_isProfile l ) (cv_X10_isProfile hts tw_276 rfl rfl ⟨Nat.le_of_ble_eq_true rfl, Nat.le_of_ble_eq_true rfl⟩) rfl hl.1 rfl (by first | exact Nat.le_of_ble_eq_true rfl | decide) dX10_isAlong_1 ⟨Nat.zero_le _, Nat.zero_le _⟩) ?_
  refine zb_eq (tgt := 27) hx hb dX10_isAlong_4 (by decide) (fun c4 => ?_) (fun c4 => ?_)
  · refine lv_iconst (v := 0) hx hb dX10_isAlong_27 (by decide) ?_
    exact re_S hx hb hr hlocks (rfl) dX10_isAlong_28 (by simp [bi, isSh, c4])
  · refine lv_iload_n hx hb dX10_isAlong_7 rfl (lv_at hl 1 rfl) ?_
    refine cSe (rST (As := [_]) ⟨hx, hb, hml, hown, hts⟩ (k_X10_isDay l ) (cv_X10_isDay hts tw_237 rfl rfl ⟨Nat.le_of_ble_eq_true rfl, Nat.le_of_ble_eq_true rfl⟩) rfl hl.1 rfl (by first | exact Nat.le_of_ble_eq_true rfl | decide) dX10_isAlong_8 ⟨Nat.zero_le _, Nat.zero_le _⟩) ?_
    refine zb_eq (tgt := 27) hx hb dX10_isAlong_11 (by decide) (fun c11 => ?_) (fun c11 => ?_)
    · refine lv_iconst (v := 0) hx hb dX10_isAlong_27 (by decide) ?_
      exact re_S hx hb hr hlocks (rfl) dX10_isAlong_28 (by simp [bi, isSh, c4, c11])
    · refine lv_iload_n hx hb dX10_isAlong_14 rfl (lv_at hl 2 rfl) ?_
      refine lv_iconst (v := 0) hx hb dX10_isAlong_15 (by decide) ?_
      refine lv_iconst (v := 3) hx hb dX10_isAlong_16 (by decide) ?_
      refine cSe (rST (As := [_, _, _]) ⟨hx, hb, hml, hown, hts⟩ (k_X10_within l ) (cv_X10_within hts tw_209 rfl rfl ⟨Nat.le_of_ble_eq_true rfl, Nat.le_of_ble_eq_true rfl⟩) rfl hl.1 rfl (by first | exact Nat.le_of_ble_eq_true rfl | decide) dX10_isAlong_17 ⟨Nat.zero_le _, Nat.zero_le _⟩) ?_
      refine zb_eq (tgt := 27) hx hb dX10_isAlong_20 (by decide) (fun c20 => ?_) (fun c20 => ?_)
      · refine lv_iconst (v := 0) hx hb dX10_isAlong_27 (by decide) ?_
        exact re_S hx hb hr hlocks (rfl) dX10_isAlong_28 (by simp [bi, isSh, c4, c11, c20])
      · refine lv_iconst (v := 1) hx hb dX10_isAlong_23 (by decide) ?_
        refine lv_goto (tgt := 28) hx hb dX10_isAlong_24 (by decide) ?_
        exact re_S hx hb hr hlocks (rfl) dX10_isAlong_28 (by simp [bi, isSh, c4, c11, c20])
