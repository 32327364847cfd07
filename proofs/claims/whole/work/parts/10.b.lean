def lyF (g : Nat → Int32) (so : Int32) (og : Nat → Int32) (i : Nat) : Nat → Int32 := fun q => if q < i then (if so = 1 ∧ og q ≠ 0 then 1 else og q) else g q
theorem lyF_0 (g : Nat → Int32) (so : Int32) (og : Nat → Int32) : lyF g so og 0 = g := by funext q; simp [lyF]
theorem lyF_s (g : Nat → Int32) (so : Int32) (og : Nat → Int32) (i : Nat) : upd (lyF g so og i) i (if so = 1 ∧ og i ≠ 0 then 1 else og i) = lyF g so og (i + 1) := by
  funext q
  unfold upd lyF
  by_cases h : q = i
  · subst h
    rw [if_pos rfl, if_pos (show q < q + 1 by omega)]
  · rw [if_neg h]
    by_cases h2 : q < i
    · rw [if_pos h2, if_pos (show q < i + 1 by omega)]
    · rw [if_neg h2, if_neg (show ¬ q < i + 1 by omega)]
theorem nI_min {a b : Nat} (ha : a < 2 ^ 31) (hb : b < 2 ^ 31) : (if nI b < nI a then nI b else nI a) = nI (min a b) := by
  by_cases h : b < a
  · rw [if_pos ((nI_ltI hb ha).mpr h), Nat.min_eq_right (by omega)]
  · rw [if_neg (fun q => h ((nI_ltI hb ha).mp q)), Nat.min_eq_left (by omega)]

set_option maxHeartbeats 4000000 in
set_option maxRecDepth 100000 in
theorem k_X10_sheet (l : Launch) {G : GT} {c : Nat → va_E} {im : Bool} {iz : Int32} (o1 : c 0 = .inr (8, [.ref (gad G 1), .ref (gad G 3), .ref (gad G 5), .ref (gad G 8), .ref (gad G 9), .ref (gad G 11), .ref (gad G 16), .ref (gad G 18), .int (bi im), .ref (gad G 27), .ref (gad G 29), .int iz])) {ss : Nat → Int32} {sz : Nat → Nat} {sg : Nat → Nat → Int32} (sh0 : c 18 = .inl (gS G, 4, .inr (.inr (.inr (.inr (fun s => some (gad G (19 + 2 * s)))))))) (sa : ∀ s, s < 4 → c (19 + 2 * s) = .inr (5, [.ref (gad G (20 + 2 * s)), .int (ss s), .int (nI (sz s))])) (sb : ∀ s, s < 4 → c (20 + 2 * s) = .inl (gI G, 40, .inl (sg s))) (hsz : ∀ s, s < 4 → sz s ≤ 40) {x so y : Int32} : Met l yX10_sheet (wv yX10_sheet cX10_sheet 4 (some .int)) ({ frames := 2, cells := 0, slots := 0, locals := 42 } : Room) (va_Pc [.ref (gad G 0), .int x, .int so, .int y] (fun U => Hw G c U U.heap)) (va_Qi (fun r (c9 : Nat → va_E) => ((isSh x && wn so (-1) 2) = false ∧ r = -2 ∧ c9 = c) ∨ (∃ s0, s0 < 4 ∧ x = nI s0 ∧ wn so (-1) 2 = true ∧ ((so = -1 ∧ r = 1 ∧ c9 = va_up c (19 + 2 * s0) (.inr (5, [.ref (gad G (20 + 2 * s0)), .int (-1), .int (nI 0)]))) ∨ (so ≠ -1 ∧ 40 < y ∧ r = -2 ∧ c9 = c) ∨ (so ≠ -1 ∧ ¬ 40 < y ∧ y < 0 ∧ r = -14 ∧ c9 = c) ∨ (so ≠ -1 ∧ ∃ k, k ≤ 40 ∧ y = nI k ∧ r = 1 ∧ c9 = va_up (va_up c (19 + 2 * s0) (.inr (5, [.ref (gad G (20 + 2 * s0)), .int so, .int (nI k)]))) (20 + 2 * s0) (.inl (gI G, 40, .inl (bgF (sg s0) k))))))) (fun c9 t => Hw G c9 t t.heap) (gA G)) 0 0 (gA G) := by
  refine en (by decide +kernel) (by first | exact Nat.le_of_ble_eq_true rfl | decide) ?_
  intro p e s m below meth cd ls hx hb hr hml hown hts hlocks hnm hw hl
  have hl : lv_has ls 4 [(0, .ref (gad G 0)), (1, .int x), (2, .int so), (3, .int y)] := hl
  have hX : Sw G s s.heap := hw.2.2.2.2.2
  have hS : va_S (gA G) s.heap s.heap [] := va_S.rf
  obtain ⟨H, hH⟩ : ∃ wz9, wz9 = s.heap := ⟨_, rfl⟩
  obtain ⟨locs, hlocs⟩ : ∃ wz9 : List Loc, wz9 = [] := ⟨_, rfl⟩
  have hw : Hw G c s H := by rw [hH]; exact hw
  have hS : va_S (gA G) s.heap H locs := by rw [hH, hlocs]; exact hS
  suffices hgo : W p l e ({ frames := 2, cells := 0, slots := 0, locals := 42 } : Room) s m (([.ref (gad G 0), .int x, .int so, .int y] : List Value).toArray) below meth cd H locs 0 0 (MQ below (va_Qi (fun r (c9 : Nat → va_E) => ((isSh x && wn so (-1) 2) = false ∧ r = -2 ∧ c9 = c) ∨ (∃ s0, s0 < 4 ∧ x = nI s0 ∧ wn so (-1) 2 = true ∧ ((so = -1 ∧ r = 1 ∧ c9 = va_up c (19 + 2 * s0) (.inr (5, [.ref (gad G (20 + 2 * s0)), .int (-1), .int (nI 0)]))) ∨ (so ≠ -1 ∧ 40 < y ∧ r = -2 ∧ c9 = c) ∨ (so ≠ -1 ∧ ¬ 40 < y ∧ y < 0 ∧ r = -14 ∧ c9 = c) ∨ (so ≠ -1 ∧ ∃ k, k ≤ 40 ∧ y = nI k ∧ r = 1 ∧ c9 = va_up (va_up c (19 + 2 * s0) (.inr (5, [.ref (gad G (20 + 2 * s0)), .int so, .int (nI k)]))) (20 + 2 * s0) (.inl (gI G, 40, .inl (bgF (sg s0) k))))))) (fun c9 t => Hw G c9 t t.heap) (gA G)) ([.ref (gad G 0), .int x, .int so, .int y] : List Value).toArray s 0 0 (gA G)) (F0 m 0 ls []) by rw [hH, hlocs] at hgo; exact hgo
  refine lv_iload_n hx hb dX10_sheet_0 rfl (lv_at hl 1 rfl) ?_
  refine cSe (rST (As := [_]) ⟨hx, hb, hml, hown, hts⟩ (k_X10_isSheet l ) (cv_X10_isSheet hts tw_791 rfl rfl ⟨Nat.le_of_ble_eq_true rfl, Nat.le_of_ble_eq_true rfl⟩) rfl hl.1 rfl (by first | exact Nat.le_of_ble_eq_true rfl | decide) dX10_sheet_1 ⟨Nat.zero_le _, Nat.zero_le _⟩) ?_
  refine zb_eq (tgt := 16) hx hb dX10_sheet_4 (by decide) (fun c4 => ?_) (fun c4 => ?_)
  · refine lv_bipush (v := (-2)) hx hb dX10_sheet_16 (by decide) ?_
    exact re_Q hx hb hr hlocks (rfl) hw hS dX10_sheet_18 (Or.inl ⟨by simp [c4], rfl, rfl⟩)
  · refine lv_iload_n hx hb dX10_sheet_7 rfl (lv_at hl 2 rfl) ?_
    refine lv_iconst (v := (-1)) hx hb dX10_sheet_8 (by decide) ?_
    refine lv_iconst (v := 2) hx hb dX10_sheet_9 (by decide) ?_
    refine cSe (rST (As := [_, _, _]) ⟨hx, hb, hml, hown, hts⟩ (k_X10_within l ) (cv_X10_within hts tw_209 rfl rfl ⟨Nat.le_of_ble_eq_true rfl, Nat.le_of_ble_eq_true rfl⟩) rfl hl.1 rfl (by first | exact Nat.le_of_ble_eq_true rfl | decide) dX10_sheet_10 ⟨Nat.zero_le _, Nat.zero_le _⟩) ?_
    refine zb_ne (tgt := 19) hx hb dX10_sheet_13 (by decide) (fun c13 => ?_) (fun c13 => ?_)
    · obtain ⟨s0, hs0, rfl⟩ := isSh_s c4
      have sk := sa s0 hs0
      have sj := sb s0 hs0
      have zl := hsz s0 hs0
      refine lv_iload_n hx hb dX10_sheet_19 rfl (lv_at hl 2 rfl) ?_
      refine lv_iconst (v := (-1)) hx hb dX10_sheet_20 (by decide) ?_
      refine lv_icmp_ne (tgt := 35) hx hb dX10_sheet_21 (by decide) (fun c21 => ?_) (fun c21 => ?_)
      · refine lv_iload_n hx hb dX10_sheet_35 rfl (lv_at hl 3 rfl) ?_
        refine lv_bipush (v := 40) hx hb dX10_sheet_36 (by decide) ?_
        refine lv_icmp_le (tgt := 44) hx hb dX10_sheet_38 (by decide) (fun c38 => ?_) (fun c38 => ?_)
        · refine lv_iload_n hx hb dX10_sheet_44 rfl (lv_at hl 3 rfl) ?_
          refine lv_if_ge (tgt := 51) hx hb dX10_sheet_45 (by decide) (fun c45 => ?_) (fun c45 => ?_)
          · obtain ⟨k, hk9, rfl⟩ : ∃ k, k ≤ 40 ∧ y = nI k := by
              rcases pk_ix y (n := 41) (by omega) with z | z | ⟨q, z, e⟩
              · exact absurd z (Int32.not_lt.mpr c45)
              · exact absurd (Int32.lt_of_lt_of_le (show (40 : Int32) < nI 41 by decide) z) (Int32.not_lt.mpr c38)
              · exact ⟨q, by omega, e⟩
            refine lv_aload_n hx hb dX10_sheet_51 rfl (lv_at hl 0 rfl) ?_
            refine w_get (C := RX10) (T := TX10) (N := 12) 7 hx hb hts inX10 hown hw (by decide) o1 rfl (by decide) (hts _ tw_159) rfl dX10_sheet_52 ?_
            refine lv_iload_n hx hb dX10_sheet_55 rfl (lv_at hl 1 rfl) ?_
            refine w_aald (j := s0) (v := gad G (19 + 2 * s0)) hx hb hw (by decide) sh0 (t0 := 1) rfl (rfl) (hs0) (by decide) rfl dX10_sheet_56 ?_
            refine lv_iload_n hx hb dX10_sheet_57 rfl (lv_at hl 2 rfl) ?_
            refine lv_iload_n hx hb dX10_sheet_58 rfl (lv_at hl 3 rfl) ?_
            refine cQv (rV (As := [_, _]) ⟨hx, hb, hml, hown, hts⟩ hw (k_X6_begin l (by omega) (by omega) sk sj zl hk9) (cv_X6_begin hts tw_798 rfl rfl ⟨Nat.le_of_ble_eq_true rfl, Nat.le_of_ble_eq_true rfl⟩) (by omega) sk rfl rfl hl.1 rfl (by first | exact Nat.le_of_ble_eq_true rfl | decide) dX10_sheet_59 ⟨Nat.zero_le _, Nat.zero_le _⟩) hw hS (fun w1 H locs hp59 hw hS => ?_)
            refine lv_iconst (v := 1) hx hb dX10_sheet_62 (by decide) ?_
            exact re_Q hx hb hr hlocks (rfl) hw hS dX10_sheet_63 (Or.inr ⟨s0, hs0, rfl, c13, Or.inr (Or.inr (Or.inr ⟨c21, k, hk9, rfl, rfl, hp59⟩))⟩)
          · refine lv_bipush (v := (-14)) hx hb dX10_sheet_48 (by decide) ?_
            exact re_Q hx hb hr hlocks (rfl) hw hS dX10_sheet_50 (Or.inr ⟨s0, hs0, rfl, c13, Or.inr (Or.inr (Or.inl ⟨c21, Int32.not_lt.mpr c38, Int32.not_le.mp c45, rfl, rfl⟩))⟩)
        · refine lv_bipush (v := (-2)) hx hb dX10_sheet_41 (by decide) ?_
          exact re_Q hx hb hr hlocks (rfl) hw hS dX10_sheet_43 (Or.inr ⟨s0, hs0, rfl, c13, Or.inr (Or.inl ⟨c21, Int32.not_le.mp c38, rfl, rfl⟩)⟩)
      · refine lv_aload_n hx hb dX10_sheet_24 rfl (lv_at hl 0 rfl) ?_
        refine w_get (C := RX10) (T := TX10) (N := 12) 7 hx hb hts inX10 hown hw (by decide) o1 rfl (by decide) (hts _ tw_159) rfl dX10_sheet_25 ?_
        refine lv_iload_n hx hb dX10_sheet_28 rfl (lv_at hl 1 rfl) ?_
        refine w_aald (j := s0) (v := gad G (19 + 2 * s0)) hx hb hw (by decide) sh0 (t0 := 1) rfl (rfl) (hs0) (by decide) rfl dX10_sheet_29 ?_
        refine cQv (rV (As := []) ⟨hx, hb, hml, hown, hts⟩ hw (k_X6_lose l (by omega) (by omega) sk sj zl) (cv_X6_lose hts tw_794 rfl rfl ⟨Nat.le_of_ble_eq_true rfl, Nat.le_of_ble_eq_true rfl⟩) (by omega) sk rfl rfl hl.1 rfl (by first | exact Nat.le_of_ble_eq_true rfl | decide) dX10_sheet_30 ⟨Nat.zero_le _, Nat.zero_le _⟩) hw hS (fun w2 H locs hp30 hw hS => ?_)
        refine lv_iconst (v := 1) hx hb dX10_sheet_33 (by decide) ?_
        exact re_Q hx hb hr hlocks (rfl) hw hS dX10_sheet_34 (Or.inr ⟨s0, hs0, rfl, c13, Or.inl ⟨c21, rfl, hp30⟩⟩)
    · refine lv_bipush (v := (-2)) hx hb dX10_sheet_16 (by decide) ?_
      exact re_Q hx hb hr hlocks (rfl) hw hS dX10_sheet_18 (Or.inl ⟨by simp [c4, c13], rfl, rfl⟩)
theorem wn_ix {n : Nat} {y : Int32} (hn : n ≤ 40) (h : wn y 0 (nI n - 1) = true) : ∃ i, i < n ∧ y = nI i := by
  unfold wn at h
  simp only [Bool.and_eq_true, Bool.not_eq_true', decide_eq_false_iff_not] at h
  rcases pk_ix y (n := n) (by omega) with z | z | z
  · exact absurd z h.1
  · refine absurd ?_ h.2
    rcases Nat.eq_zero_or_pos n with q | q
    · subst q; exact Int32.lt_of_lt_of_le (by decide) z
    · rw [ixp q]; exact Int32.lt_of_lt_of_le (nI_lt (by omega) (by omega)) z
  · exact z
set_option maxHeartbeats 4000000 in
set_option maxRecDepth 100000 in
theorem k_X10_write (l : Launch) {G : GT} {c : Nat → va_E} {im : Bool} {iz : Int32} (o1 : c 0 = .inr (8, [.ref (gad G 1), .ref (gad G 3), .ref (gad G 5), .ref (gad G 8), .ref (gad G 9), .ref (gad G 11), .ref (gad G 16), .ref (gad G 18), .int (bi im), .ref (gad G 27), .ref (gad G 29), .int iz])) {ss : Nat → Int32} {sz : Nat → Nat} {sg : Nat → Nat → Int32} (sh0 : c 18 = .inl (gS G, 4, .inr (.inr (.inr (.inr (fun s => some (gad G (19 + 2 * s)))))))) (sa : ∀ s, s < 4 → c (19 + 2 * s) = .inr (5, [.ref (gad G (20 + 2 * s)), .int (ss s), .int (nI (sz s))])) (sb : ∀ s, s < 4 → c (20 + 2 * s) = .inl (gI G, 40, .inl (sg s))) (hsz : ∀ s, s < 4 → sz s ≤ 40) {x y v : Int32} : Met l yX10_write (wv yX10_write cX10_write 4 (some .int)) ({ frames := 2, cells := 0, slots := 0, locals := 42 } : Room) (va_Pc [.ref (gad G 0), .int x, .int y, .int v] (fun U => Hw G c U U.heap)) (va_Qi (fun r (c9 : Nat → va_E) => (isSh x = false ∧ r = -2 ∧ c9 = c) ∨ (∃ s0, s0 < 4 ∧ x = nI s0 ∧ ((ss s0 = -1 ∧ r = -11 ∧ c9 = c) ∨ (ss s0 ≠ -1 ∧ wn y 0 (nI (sz s0) - 1) = false ∧ r = -12 ∧ c9 = c) ∨ (ss s0 ≠ -1 ∧ ∃ i, i < sz s0 ∧ y = nI i ∧ r = 1 ∧ c9 = va_up c (20 + 2 * s0) (.inl (gI G, 40, .inl (upd (sg s0) i (if ss s0 = 1 ∧ v ≠ 0 then 1 else v)))))))) (fun c9 t => Hw G c9 t t.heap) (gA G)) 0 0 (gA G) := by
  refine en (by decide +kernel) (by first | exact Nat.le_of_ble_eq_true rfl | decide) ?_
  intro p e s m below meth cd ls hx hb hr hml hown hts hlocks hnm hw hl
  have hl : lv_has ls 4 [(0, .ref (gad G 0)), (1, .int x), (2, .int y), (3, .int v)] := hl
  have hX : Sw G s s.heap := hw.2.2.2.2.2
  have hS : va_S (gA G) s.heap s.heap [] := va_S.rf
  obtain ⟨H, hH⟩ : ∃ wz9, wz9 = s.heap := ⟨_, rfl⟩
  obtain ⟨locs, hlocs⟩ : ∃ wz9 : List Loc, wz9 = [] := ⟨_, rfl⟩
  have hw : Hw G c s H := by rw [hH]; exact hw
  have hS : va_S (gA G) s.heap H locs := by rw [hH, hlocs]; exact hS
  suffices hgo : W p l e ({ frames := 2, cells := 0, slots := 0, locals := 42 } : Room) s m (([.ref (gad G 0), .int x, .int y, .int v] : List Value).toArray) below meth cd H locs 0 0 (MQ below (va_Qi (fun r (c9 : Nat → va_E) => (isSh x = false ∧ r = -2 ∧ c9 = c) ∨ (∃ s0, s0 < 4 ∧ x = nI s0 ∧ ((ss s0 = -1 ∧ r = -11 ∧ c9 = c) ∨ (ss s0 ≠ -1 ∧ wn y 0 (nI (sz s0) - 1) = false ∧ r = -12 ∧ c9 = c) ∨ (ss s0 ≠ -1 ∧ ∃ i, i < sz s0 ∧ y = nI i ∧ r = 1 ∧ c9 = va_up c (20 + 2 * s0) (.inl (gI G, 40, .inl (upd (sg s0) i (if ss s0 = 1 ∧ v ≠ 0 then 1 else v)))))))) (fun c9 t => Hw G c9 t t.heap) (gA G)) ([.ref (gad G 0), .int x, .int y, .int v] : List Value).toArray s 0 0 (gA G)) (F0 m 0 ls []) by rw [hH, hlocs] at hgo; exact hgo
  refine lv_iload_n hx hb dX10_write_0 rfl (lv_at hl 1 rfl) ?_
  refine cSe (rST (As := [_]) ⟨hx, hb, hml, hown, hts⟩ (k_X10_isSheet l ) (cv_X10_isSheet hts tw_791 rfl rfl ⟨Nat.le_of_ble_eq_true rfl, Nat.le_of_ble_eq_true rfl⟩) rfl hl.1 rfl (by first | exact Nat.le_of_ble_eq_true rfl | decide) dX10_write_1 ⟨Nat.zero_le _, Nat.zero_le _⟩) ?_
  refine zb_ne (tgt := 10) hx hb dX10_write_4 (by decide) (fun c4 => ?_) (fun c4 => ?_)
  · obtain ⟨s0, hs0, rfl⟩ := isSh_s c4
    have sk := sa s0 hs0
    have sj := sb s0 hs0
    have zl := hsz s0 hs0
    refine lv_aload_n hx hb dX10_write_10 rfl (lv_at hl 0 rfl) ?_
    refine w_get (C := RX10) (T := TX10) (N := 12) 7 hx hb hts inX10 hown hw (by decide) o1 rfl (by decide) (hts _ tw_159) rfl dX10_write_11 ?_
    refine lv_iload_n hx hb dX10_write_14 rfl (lv_at hl 1 rfl) ?_
    refine w_aald (j := s0) (v := gad G (19 + 2 * s0)) hx hb hw (by decide) sh0 (t0 := 1) rfl (rfl) (hs0) (by decide) rfl dX10_write_15 ?_
    refine cSe (rV (As := []) ⟨hx, hb, hml, hown, hts⟩ hw (k_X6_isMissing l (by omega) (by omega) sk sj zl) (cv_X6_isMissing hts tw_806 rfl rfl ⟨Nat.le_of_ble_eq_true rfl, Nat.le_of_ble_eq_true rfl⟩) (by omega) sk rfl rfl hl.1 rfl (by first | exact Nat.le_of_ble_eq_true rfl | decide) dX10_write_16 ⟨Nat.zero_le _, Nat.zero_le _⟩) ?_
    refine zb_eq (tgt := 25) hx hb dX10_write_19 (by decide) (fun c19 => ?_) (fun c19 => ?_)
    · refine lv_iload_n hx hb dX10_write_25 rfl (lv_at hl 2 rfl) ?_
      refine lv_iconst (v := 0) hx hb dX10_write_26 (by decide) ?_
      refine lv_aload_n hx hb dX10_write_27 rfl (lv_at hl 0 rfl) ?_
      refine w_get (C := RX10) (T := TX10) (N := 12) 7 hx hb hts inX10 hown hw (by decide) o1 rfl (by decide) (hts _ tw_159) rfl dX10_write_28 ?_
      refine lv_iload_n hx hb dX10_write_31 rfl (lv_at hl 1 rfl) ?_
      refine w_aald (j := s0) (v := gad G (19 + 2 * s0)) hx hb hw (by decide) sh0 (t0 := 1) rfl (rfl) (hs0) (by decide) rfl dX10_write_32 ?_
      refine cSe (rV (As := []) ⟨hx, hb, hml, hown, hts⟩ hw (k_X6_size l (by omega) (by omega) sk sj zl) (cv_X6_size hts tw_810 rfl rfl ⟨Nat.le_of_ble_eq_true rfl, Nat.le_of_ble_eq_true rfl⟩) (by omega) sk rfl rfl hl.1 rfl (by first | exact Nat.le_of_ble_eq_true rfl | decide) dX10_write_33 ⟨Nat.zero_le _, Nat.zero_le _⟩) ?_
      refine lv_iconst (v := 1) hx hb dX10_write_36 (by decide) ?_
      refine lv_isub hx hb dX10_write_37 ?_
      refine cSe (rST (As := [_, _, _]) ⟨hx, hb, hml, hown, hts⟩ (k_X10_within l ) (cv_X10_within hts tw_209 rfl rfl ⟨Nat.le_of_ble_eq_true rfl, Nat.le_of_ble_eq_true rfl⟩) rfl hl.1 rfl (by first | exact Nat.le_of_ble_eq_true rfl | decide) dX10_write_38 ⟨Nat.zero_le _, Nat.zero_le _⟩) ?_
      refine zb_ne (tgt := 47) hx hb dX10_write_41 (by decide) (fun c41 => ?_) (fun c41 => ?_)
      · obtain ⟨i, hi9, rfl⟩ := wn_ix zl c41
        refine lv_aload_n hx hb dX10_write_47 rfl (lv_at hl 0 rfl) ?_
        refine w_get (C := RX10) (T := TX10) (N := 12) 7 hx hb hts inX10 hown hw (by decide) o1 rfl (by decide) (hts _ tw_159) rfl dX10_write_48 ?_
        refine lv_iload_n hx hb dX10_write_51 rfl (lv_at hl 1 rfl) ?_
        refine w_aald (j := s0) (v := gad G (19 + 2 * s0)) hx hb hw (by decide) sh0 (t0 := 1) rfl (rfl) (hs0) (by decide) rfl dX10_write_52 ?_
        refine lv_iload_n hx hb dX10_write_53 rfl (lv_at hl 2 rfl) ?_
        refine lv_iload_n hx hb dX10_write_54 rfl (lv_at hl 3 rfl) ?_
        refine cQv (rV (As := [_, _]) ⟨hx, hb, hml, hown, hts⟩ hw (k_X6_put l (by omega) (by omega) sk sj zl (by omega)) (cv_X6_put hts tw_814 rfl rfl ⟨Nat.le_of_ble_eq_true rfl, Nat.le_of_ble_eq_true rfl⟩) (by omega) sk rfl rfl hl.1 rfl (by first | exact Nat.le_of_ble_eq_true rfl | decide) dX10_write_55 ⟨Nat.zero_le _, Nat.zero_le _⟩) hw hS (fun w1 H locs hp55 hw hS => ?_)
        refine lv_iconst (v := 1) hx hb dX10_write_58 (by decide) ?_
        exact re_Q hx hb hr hlocks (rfl) hw hS dX10_write_59 (Or.inr ⟨s0, hs0, rfl, Or.inr (Or.inr ⟨of_decide_eq_false c19, i, hi9, rfl, rfl, hp55⟩)⟩)
      · refine lv_bipush (v := (-12)) hx hb dX10_write_44 (by decide) ?_
        exact re_Q hx hb hr hlocks (rfl) hw hS dX10_write_46 (Or.inr ⟨s0, hs0, rfl, Or.inr (Or.inl ⟨of_decide_eq_false c19, c41, rfl, rfl⟩)⟩)
    · refine lv_bipush (v := (-11)) hx hb dX10_write_22 (by decide) ?_
      exact re_Q hx hb hr hlocks (rfl) hw hS dX10_write_24 (Or.inr ⟨s0, hs0, rfl, Or.inl ⟨of_decide_eq_true c19, rfl, rfl⟩⟩)
  · refine lv_bipush (v := (-2)) hx hb dX10_write_7 (by decide) ?_
    exact re_Q hx hb hr hlocks (rfl) hw hS dX10_write_9 (Or.inl ⟨c4, rfl, rfl⟩)
theorem run_ix {n : Nat} {i q : Int32} (hn : n ≤ 40) (h : (!decide (i < 0) && !decide (q < 0) && !decide (nI n - q < i)) = true) : ∃ a m : Nat, i = nI a ∧ q = nI m ∧ a + m ≤ n := by
  simp only [Bool.and_eq_true, Bool.not_eq_true', decide_eq_false_iff_not] at h
  obtain ⟨⟨h1, h2⟩, h3⟩ := h
  obtain ⟨a, ha, rfl⟩ := nI_of h1
  obtain ⟨m, hm, rfl⟩ := nI_of h2
  refine ⟨a, m, rfl, rfl, ?_⟩
  have e : (nI n - nI m).toInt = (n : Int) - m := by
    rw [Int32.toInt_sub, nI_toInt (by omega), nI_toInt hm]
    have : ((n : Int) - m).bmod (2 ^ 32) = (n : Int) - m := by rw [Int.bmod_eq_of_le (by omega) (by omega)]
    exact this
  have h4 := Int32.le_iff_toInt_le.mp (Int32.not_lt.mp h3)
  rw [e, nI_toInt ha] at h4
  omega
set_option maxHeartbeats 4000000 in
set_option maxRecDepth 100000 in
theorem k_X10_copy (l : Launch) {G : GT} {c : Nat → va_E} {im : Bool} {iz : Int32} (o1 : c 0 = .inr (8, [.ref (gad G 1), .ref (gad G 3), .ref (gad G 5), .ref (gad G 8), .ref (gad G 9), .ref (gad G 11), .ref (gad G 16), .ref (gad G 18), .int (bi im), .ref (gad G 27), .ref (gad G 29), .int iz])) {ss : Nat → Int32} {sz : Nat → Nat} {sg : Nat → Nat → Int32} (sh0 : c 18 = .inl (gS G, 4, .inr (.inr (.inr (.inr (fun s => some (gad G (19 + 2 * s)))))))) (sa : ∀ s, s < 4 → c (19 + 2 * s) = .inr (5, [.ref (gad G (20 + 2 * s)), .int (ss s), .int (nI (sz s))])) (sb : ∀ s, s < 4 → c (20 + 2 * s) = .inl (gI G, 40, .inl (sg s))) (hsz : ∀ s, s < 4 → sz s ≤ 40) {x i y j q : Int32} : Met l yX10_copy (wv yX10_copy cX10_copy 8 (some .int)) ({ frames := 2, cells := 0, slots := 0, locals := 50 } : Room) (va_Pc [.ref (gad G 0), .int x, .int i, .int y, .int j, .int q] (fun U => Hw G c U U.heap)) (va_Qi (fun r (c9 : Nat → va_E) => ((isSh x && isSh y) = false ∧ r = -2 ∧ c9 = c) ∨ (∃ s0 t0, s0 < 4 ∧ t0 < 4 ∧ x = nI s0 ∧ y = nI t0 ∧ (((ss s0 = -1 ∨ ss t0 = -1) ∧ r = -11 ∧ c9 = c) ∨ (ss s0 ≠ -1 ∧ ss t0 ≠ -1 ∧ ss s0 ≠ ss t0 ∧ r = -13 ∧ c9 = c) ∨ (ss s0 ≠ -1 ∧ ss t0 ≠ -1 ∧ ss s0 = ss t0 ∧ ((!decide (i < 0) && !decide (q < 0) && !decide (nI (sz s0) - q < i)) && (!decide (j < 0) && !decide (q < 0) && !decide (nI (sz t0) - q < j))) = false ∧ r = -12 ∧ c9 = c) ∨ (ss s0 ≠ -1 ∧ ss t0 ≠ -1 ∧ ss s0 = ss t0 ∧ ∃ a b m : Nat, i = nI a ∧ j = nI b ∧ q = nI m ∧ a + m ≤ sz s0 ∧ b + m ≤ sz t0 ∧ r = q ∧ c9 = va_up c (20 + 2 * t0) (.inl (gI G, 40, .inl (va_cpy (sg s0) (sg t0) a b m))))))) (fun c9 t => Hw G c9 t t.heap) (gA G)) 0 0 (gA G) := by
  refine en (by decide +kernel) (by first | exact Nat.le_of_ble_eq_true rfl | decide) ?_
  intro p e s m below meth cd ls hx hb hr hml hown hts hlocks hnm hw hl
  have hl : lv_has ls 8 [(0, .ref (gad G 0)), (1, .int x), (2, .int i), (3, .int y), (4, .int j), (5, .int q)] := hl
  have hX : Sw G s s.heap := hw.2.2.2.2.2
  have hS : va_S (gA G) s.heap s.heap [] := va_S.rf
  obtain ⟨H, hH⟩ : ∃ wz9, wz9 = s.heap := ⟨_, rfl⟩
  obtain ⟨locs, hlocs⟩ : ∃ wz9 : List Loc, wz9 = [] := ⟨_, rfl⟩
  have hw : Hw G c s H := by rw [hH]; exact hw
  have hS : va_S (gA G) s.heap H locs := by rw [hH, hlocs]; exact hS
  suffices hgo : W p l e ({ frames := 2, cells := 0, slots := 0, locals := 50 } : Room) s m (([.ref (gad G 0), .int x, .int i, .int y, .int j, .int q] : List Value).toArray) below meth cd H locs 0 0 (MQ below (va_Qi (fun r (c9 : Nat → va_E) => ((isSh x && isSh y) = false ∧ r = -2 ∧ c9 = c) ∨ (∃ s0 t0, s0 < 4 ∧ t0 < 4 ∧ x = nI s0 ∧ y = nI t0 ∧ (((ss s0 = -1 ∨ ss t0 = -1) ∧ r = -11 ∧ c9 = c) ∨ (ss s0 ≠ -1 ∧ ss t0 ≠ -1 ∧ ss s0 ≠ ss t0 ∧ r = -13 ∧ c9 = c) ∨ (ss s0 ≠ -1 ∧ ss t0 ≠ -1 ∧ ss s0 = ss t0 ∧ ((!decide (i < 0) && !decide (q < 0) && !decide (nI (sz s0) - q < i)) && (!decide (j < 0) && !decide (q < 0) && !decide (nI (sz t0) - q < j))) = false ∧ r = -12 ∧ c9 = c) ∨ (ss s0 ≠ -1 ∧ ss t0 ≠ -1 ∧ ss s0 = ss t0 ∧ ∃ a b m : Nat, i = nI a ∧ j = nI b ∧ q = nI m ∧ a + m ≤ sz s0 ∧ b + m ≤ sz t0 ∧ r = q ∧ c9 = va_up c (20 + 2 * t0) (.inl (gI G, 40, .inl (va_cpy (sg s0) (sg t0) a b m))))))) (fun c9 t => Hw G c9 t t.heap) (gA G)) ([.ref (gad G 0), .int x, .int i, .int y, .int j, .int q] : List Value).toArray s 0 0 (gA G)) (F0 m 0 ls []) by rw [hH, hlocs] at hgo; exact hgo
  refine lv_iload_n hx hb dX10_copy_0 rfl (lv_at hl 1 rfl) ?_
  refine cSe (rST (As := [_]) ⟨hx, hb, hml, hown, hts⟩ (k_X10_isSheet l ) (cv_X10_isSheet hts tw_791 rfl rfl ⟨Nat.le_of_ble_eq_true rfl, Nat.le_of_ble_eq_true rfl⟩) rfl hl.1 rfl (by first | exact Nat.le_of_ble_eq_true rfl | decide) dX10_copy_1 ⟨Nat.zero_le _, Nat.zero_le _⟩) ?_
  refine zb_eq (tgt := 14) hx hb dX10_copy_4 (by decide) (fun c4 => ?_) (fun c4 => ?_)
  · refine lv_bipush (v := (-2)) hx hb dX10_copy_14 (by decide) ?_
    exact re_Q hx hb hr hlocks (rfl) hw hS dX10_copy_16 (Or.inl ⟨by simp [c4], rfl, rfl⟩)
  · refine lv_iload_n hx hb dX10_copy_7 rfl (lv_at hl 3 rfl) ?_
    refine cSe (rST (As := [_]) ⟨hx, hb, hml, hown, hts⟩ (k_X10_isSheet l ) (cv_X10_isSheet hts tw_791 rfl rfl ⟨Nat.le_of_ble_eq_true rfl, Nat.le_of_ble_eq_true rfl⟩) rfl hl.1 rfl (by first | exact Nat.le_of_ble_eq_true rfl | decide) dX10_copy_8 ⟨Nat.zero_le _, Nat.zero_le _⟩) ?_
    refine zb_ne (tgt := 17) hx hb dX10_copy_11 (by decide) (fun c11 => ?_) (fun c11 => ?_)
    · obtain ⟨s0, hs0, rfl⟩ := isSh_s c4
      have sk := sa s0 hs0
      have sj := sb s0 hs0
      have zl := hsz s0 hs0
      obtain ⟨t0, ht0, rfl⟩ := isSh_s c11
      have sk2 := sa t0 ht0
      have sj2 := sb t0 ht0
      have zl2 := hsz t0 ht0
      refine lv_aload_n hx hb dX10_copy_17 rfl (lv_at hl 0 rfl) ?_
      refine w_get (C := RX10) (T := TX10) (N := 12) 7 hx hb hts inX10 hown hw (by decide) o1 rfl (by decide) (hts _ tw_159) rfl dX10_copy_18 ?_
      refine lv_iload_n hx hb dX10_copy_21 rfl (lv_at hl 1 rfl) ?_
      refine w_aald (j := s0) (v := gad G (19 + 2 * s0)) hx hb hw (by decide) sh0 (t0 := 1) rfl (rfl) (hs0) (by decide) rfl dX10_copy_22 ?_
      refine lv_astore (lv' := [(6, _), (0, _), (1, _), (2, _), (3, _), (4, _), (5, _)]) hx hb dX10_copy_23 hl (by decide) rfl (fun ls hl => ?_)
      refine lv_aload_n hx hb dX10_copy_25 rfl (lv_at hl 1 rfl) ?_
      refine w_get (C := RX10) (T := TX10) (N := 12) 7 hx hb hts inX10 hown hw (by decide) o1 rfl (by decide) (hts _ tw_159) rfl dX10_copy_26 ?_
      refine lv_iload_n hx hb dX10_copy_29 rfl (lv_at hl 4 rfl) ?_
      refine w_aald (j := t0) (v := gad G (19 + 2 * t0)) hx hb hw (by decide) sh0 (t0 := 1) rfl (rfl) (ht0) (by decide) rfl dX10_copy_30 ?_
      refine lv_astore (lv' := [(7, _), (6, _), (0, _), (1, _), (2, _), (3, _), (4, _), (5, _)]) hx hb dX10_copy_31 hl (by decide) rfl (fun ls hl => ?_)
      refine lv_aload hx hb dX10_copy_33 (lv_at hl 1 rfl) ?_
      refine cSe (rV (As := []) ⟨hx, hb, hml, hown, hts⟩ hw (k_X6_isMissing l (by omega) (by omega) sk sj zl) (cv_X6_isMissing hts tw_806 rfl rfl ⟨Nat.le_of_ble_eq_true rfl, Nat.le_of_ble_eq_true rfl⟩) (by omega) sk rfl rfl hl.1 rfl (by first | exact Nat.le_of_ble_eq_true rfl | decide) dX10_copy_35 ⟨Nat.zero_le _, Nat.zero_le _⟩) ?_
      refine zb_ne (tgt := 49) hx hb dX10_copy_38 (by decide) (fun c38 => ?_) (fun c38 => ?_)
      · refine lv_bipush (v := (-11)) hx hb dX10_copy_49 (by decide) ?_
        exact re_Q hx hb hr hlocks (rfl) hw hS dX10_copy_51 (Or.inr ⟨s0, t0, hs0, ht0, rfl, rfl, Or.inl ⟨Or.inl (of_decide_eq_true c38), rfl, rfl⟩⟩)
      · refine lv_aload hx hb dX10_copy_41 (lv_at hl 0 rfl) ?_
        refine cSe (rV (As := []) ⟨hx, hb, hml, hown, hts⟩ hw (k_X6_isMissing l (by omega) (by omega) sk2 sj2 zl2) (cv_X6_isMissing hts tw_806 rfl rfl ⟨Nat.le_of_ble_eq_true rfl, Nat.le_of_ble_eq_true rfl⟩) (by omega) sk2 rfl rfl hl.1 rfl (by first | exact Nat.le_of_ble_eq_true rfl | decide) dX10_copy_43 ⟨Nat.zero_le _, Nat.zero_le _⟩) ?_
        refine zb_eq (tgt := 52) hx hb dX10_copy_46 (by decide) (fun c46 => ?_) (fun c46 => ?_)
        · refine lv_aload hx hb dX10_copy_52 (lv_at hl 1 rfl) ?_
          refine cSe (rV (As := []) ⟨hx, hb, hml, hown, hts⟩ hw (k_X6_sort l (by omega) (by omega) sk sj zl) (cv_X6_sort hts tw_834 rfl rfl ⟨Nat.le_of_ble_eq_true rfl, Nat.le_of_ble_eq_true rfl⟩) (by omega) sk rfl rfl hl.1 rfl (by first | exact Nat.le_of_ble_eq_true rfl | decide) dX10_copy_54 ⟨Nat.zero_le _, Nat.zero_le _⟩) ?_
          refine lv_aload hx hb dX10_copy_57 (lv_at hl 0 rfl) ?_
          refine cSe (rV (As := []) ⟨hx, hb, hml, hown, hts⟩ hw (k_X6_sort l (by omega) (by omega) sk2 sj2 zl2) (cv_X6_sort hts tw_834 rfl rfl ⟨Nat.le_of_ble_eq_true rfl, Nat.le_of_ble_eq_true rfl⟩) (by omega) sk2 rfl rfl hl.1 rfl (by first | exact Nat.le_of_ble_eq_true rfl | decide) dX10_copy_59 ⟨Nat.zero_le _, Nat.zero_le _⟩) ?_
          refine lv_icmp_eq (tgt := 68) hx hb dX10_copy_62 (by decide) (fun c62 => ?_) (fun c62 => ?_)
          · refine lv_aload hx hb dX10_copy_68 (lv_at hl 1 rfl) ?_
            refine lv_iload_n hx hb dX10_copy_70 rfl (lv_at hl 4 rfl) ?_
            refine lv_iload hx hb dX10_copy_71 (lv_at hl 7 rfl) ?_
            refine cSe (rV (As := [_, _]) ⟨hx, hb, hml, hown, hts⟩ hw (k_X6_hasRun l (by omega) (by omega) sk sj zl) (cv_X6_hasRun hts tw_838 rfl rfl ⟨Nat.le_of_ble_eq_true rfl, Nat.le_of_ble_eq_true rfl⟩) (by omega) sk rfl rfl hl.1 rfl (by first | exact Nat.le_of_ble_eq_true rfl | decide) dX10_copy_73 ⟨Nat.zero_le _, Nat.zero_le _⟩) ?_
            refine zb_eq (tgt := 91) hx hb dX10_copy_76 (by decide) (fun c76 => ?_) (fun c76 => ?_)
            · refine lv_bipush (v := (-12)) hx hb dX10_copy_91 (by decide) ?_
              exact re_Q hx hb hr hlocks (rfl) hw hS dX10_copy_93 (Or.inr ⟨s0, t0, hs0, ht0, rfl, rfl, Or.inr (Or.inr (Or.inl ⟨of_decide_eq_false c38, of_decide_eq_false c46, c62, by rw [c76, Bool.false_and], rfl, rfl⟩))⟩)
            · refine lv_aload hx hb dX10_copy_79 (lv_at hl 0 rfl) ?_
              refine lv_iload hx hb dX10_copy_81 (lv_at hl 6 rfl) ?_
              refine lv_iload hx hb dX10_copy_83 (lv_at hl 7 rfl) ?_
              refine cSe (rV (As := [_, _]) ⟨hx, hb, hml, hown, hts⟩ hw (k_X6_hasRun l (by omega) (by omega) sk2 sj2 zl2) (cv_X6_hasRun hts tw_838 rfl rfl ⟨Nat.le_of_ble_eq_true rfl, Nat.le_of_ble_eq_true rfl⟩) (by omega) sk2 rfl rfl hl.1 rfl (by first | exact Nat.le_of_ble_eq_true rfl | decide) dX10_copy_85 ⟨Nat.zero_le _, Nat.zero_le _⟩) ?_
              refine zb_ne (tgt := 94) hx hb dX10_copy_88 (by decide) (fun c88 => ?_) (fun c88 => ?_)
              · obtain ⟨a, m, ha9, hm9, ham⟩ := run_ix zl c76
                obtain ⟨b, m2, hb9, hm9b, hbm⟩ := run_ix zl2 c88
                obtain rfl : m = m2 := (nI_eq (by omega) (by omega)).mp (hm9.symm.trans hm9b)
                subst ha9 hb9 hm9
                refine lv_aload hx hb dX10_copy_94 (lv_at hl 0 rfl) ?_
                refine lv_iload hx hb dX10_copy_96 (lv_at hl 6 rfl) ?_
                refine lv_aload hx hb dX10_copy_98 (lv_at hl 1 rfl) ?_
                refine lv_iload_n hx hb dX10_copy_100 rfl (lv_at hl 4 rfl) ?_
                refine lv_iload hx hb dX10_copy_101 (lv_at hl 7 rfl) ?_
                refine cQv (rV (As := [_, _, _, _]) ⟨hx, hb, hml, hown, hts⟩ hw (k_X6_takeRun l (by omega) (by omega) sk2 sj2 zl2 (by omega) (by omega) sk sj (by omega) (by omega)) (cv_X6_takeRun hts tw_842 rfl rfl ⟨Nat.le_of_ble_eq_true rfl, Nat.le_of_ble_eq_true rfl⟩) (by omega) sk2 rfl rfl hl.1 rfl (by first | exact Nat.le_of_ble_eq_true rfl | decide) dX10_copy_103 ⟨Nat.zero_le _, Nat.zero_le _⟩) hw hS (fun w1 H locs hp103 hw hS => ?_)
                refine lv_iload hx hb dX10_copy_106 (lv_at hl 7 rfl) ?_
                exact re_Q hx hb hr hlocks (rfl) hw hS dX10_copy_108 (Or.inr ⟨s0, t0, hs0, ht0, rfl, rfl, Or.inr (Or.inr (Or.inr ⟨of_decide_eq_false c38, of_decide_eq_false c46, c62, a, b, m, rfl, rfl, rfl, ham, hbm, rfl, hp103⟩))⟩)
              · refine lv_bipush (v := (-12)) hx hb dX10_copy_91 (by decide) ?_
                exact re_Q hx hb hr hlocks (rfl) hw hS dX10_copy_93 (Or.inr ⟨s0, t0, hs0, ht0, rfl, rfl, Or.inr (Or.inr (Or.inl ⟨of_decide_eq_false c38, of_decide_eq_false c46, c62, by rw [c88, Bool.and_false], rfl, rfl⟩))⟩)
          · refine lv_bipush (v := (-13)) hx hb dX10_copy_65 (by decide) ?_
            exact re_Q hx hb hr hlocks (rfl) hw hS dX10_copy_67 (Or.inr ⟨s0, t0, hs0, ht0, rfl, rfl, Or.inr (Or.inl ⟨of_decide_eq_false c38, of_decide_eq_false c46, c62, rfl, rfl⟩)⟩)
        · refine lv_bipush (v := (-11)) hx hb dX10_copy_49 (by decide) ?_
          exact re_Q hx hb hr hlocks (rfl) hw hS dX10_copy_51 (Or.inr ⟨s0, t0, hs0, ht0, rfl, rfl, Or.inl ⟨Or.inr (of_decide_eq_true c46), rfl, rfl⟩⟩)
    · refine lv_bipush (v := (-2)) hx hb dX10_copy_14 (by decide) ?_
      exact re_Q hx hb hr hlocks (rfl) hw hS dX10_copy_16 (Or.inl ⟨by simp [c4, c11], rfl, rfl⟩)
set_option maxHeartbeats 4000000 in
set_option maxRecDepth 100000 in
theorem k_X10_lay (l : Launch) {G : GT} {c : Nat → va_E} {im : Bool} {iz : Int32} (o1 : c 0 = .inr (8, [.ref (gad G 1), .ref (gad G 3), .ref (gad G 5), .ref (gad G 8), .ref (gad G 9), .ref (gad G 11), .ref (gad G 16), .ref (gad G 18), .int (bi im), .ref (gad G 27), .ref (gad G 29), .int iz])) {n : Nat} {f : Nat → Int32} (h1 : c 1 = .inr (0, [.ref (gad G 2), .int (nI n)])) (h2 : c 2 = .inl (gI G, 132, .inl f)) (hn : n ≤ 12) {m0 : Nat} {g : Nat → Int32} (l1 : c 16 = .inr (2, [.ref (gad G 17), .int (nI m0)])) (l2 : c 17 = .inl (gI G, 100, .inl g)) (hm : m0 ≤ 100) {ss : Nat → Int32} {sz : Nat → Nat} {sg : Nat → Nat → Int32} (sh0 : c 18 = .inl (gS G, 4, .inr (.inr (.inr (.inr (fun s => some (gad G (19 + 2 * s)))))))) (sa : ∀ s, s < 4 → c (19 + 2 * s) = .inr (5, [.ref (gad G (20 + 2 * s)), .int (ss s), .int (nI (sz s))])) (sb : ∀ s, s < 4 → c (20 + 2 * s) = .inl (gI G, 40, .inl (sg s))) (hsz : ∀ s, s < 4 → sz s ≤ 40) {a d t x : Int32} : Met l yX10_lay (wv yX10_lay cX10_lay 7 (some .int)) ({ frames := 5, cells := 0, slots := 0, locals := 121 } : Room) (va_Pc [.ref (gad G 0), .int a, .int d, .int t, .int x] (fun U => Hw G c U U.heap)) (va_Qi (fun r (c9 : Nat → va_E) => ((isP a && isDy d && isSh t && isSh x) = false ∧ r = -2 ∧ c9 = c) ∨ (∃ j9, j9 < 4 ∧ x = nI j9 ∧ (isP a && isDy d && isSh t) = true ∧ ((ss j9 = -1 ∧ r = -11 ∧ c9 = c) ∨ (ss j9 ≠ -1 ∧ r = nI (min (szN t) (sz j9)) ∧ ∃ (m8 : Nat) (g8 : Nat → Int32), m8 ≤ 100 ∧ c9 = va_up (va_up (va_up c 16 (.inr (2, [.ref (gad G 17), .int (nI m8)]))) 17 (.inl (gI G, 100, .inl g8))) (20 + 2 * j9) (.inl (gI G, 40, .inl (lyF (sg j9) (ss j9) (og f n (pN a) d t) (min (szN t) (sz j9))))))))) (fun c9 t => Hw G c9 t t.heap) (gA G)) 0 0 (gA G) := by
  refine en (by decide +kernel) (by first | exact Nat.le_of_ble_eq_true rfl | decide) ?_
  intro p e s m below meth cd ls hx hb hr hml hown hts hlocks hnm hw hl
  have hl : lv_has ls 7 [(0, .ref (gad G 0)), (1, .int a), (2, .int d), (3, .int t), (4, .int x)] := hl
  have hX : Sw G s s.heap := hw.2.2.2.2.2
  have hS : va_S (gA G) s.heap s.heap [] := va_S.rf
  obtain ⟨H, hH⟩ : ∃ wz9, wz9 = s.heap := ⟨_, rfl⟩
  obtain ⟨locs, hlocs⟩ : ∃ wz9 : List Loc, wz9 = [] := ⟨_, rfl⟩
  have hw : Hw G c s H := by rw [hH]; exact hw
  have hS : va_S (gA G) s.heap H locs := by rw [hH, hlocs]; exact hS
  suffices hgo : W p l e ({ frames := 5, cells := 0, slots := 0, locals := 121 } : Room) s m (([.ref (gad G 0), .int a, .int d, .int t, .int x] : List Value).toArray) below meth cd H locs 0 0 (MQ below (va_Qi (fun r (c9 : Nat → va_E) => ((isP a && isDy d && isSh t && isSh x) = false ∧ r = -2 ∧ c9 = c) ∨ (∃ j9, j9 < 4 ∧ x = nI j9 ∧ (isP a && isDy d && isSh t) = true ∧ ((ss j9 = -1 ∧ r = -11 ∧ c9 = c) ∨ (ss j9 ≠ -1 ∧ r = nI (min (szN t) (sz j9)) ∧ ∃ (m8 : Nat) (g8 : Nat → Int32), m8 ≤ 100 ∧ c9 = va_up (va_up (va_up c 16 (.inr (2, [.ref (gad G 17), .int (nI m8)]))) 17 (.inl (gI G, 100, .inl g8))) (20 + 2 * j9) (.inl (gI G, 40, .inl (lyF (sg j9) (ss j9) (og f n (pN a) d t) (min (szN t) (sz j9))))))))) (fun c9 t => Hw G c9 t t.heap) (gA G)) ([.ref (gad G 0), .int a, .int d, .int t, .int x] : List Value).toArray s 0 0 (gA G)) (F0 m 0 ls []) by rw [hH, hlocs] at hgo; exact hgo
  refine lv_iload_n hx hb dX10_lay_0 rfl (lv_at hl 1 rfl) ?_
  refine lv_iload_n hx hb dX10_lay_1 rfl (lv_at hl 2 rfl) ?_
  refine lv_iload_n hx hb dX10_lay_2 rfl (lv_at hl 3 rfl) ?_
  refine cSe (rST (As := [_, _, _]) ⟨hx, hb, hml, hown, hts⟩ (k_X10_isAlong l ) (cv_X10_isAlong hts tw_359 rfl rfl ⟨Nat.le_of_ble_eq_true rfl, Nat.le_of_ble_eq_true rfl⟩) rfl hl.1 rfl (by first | exact Nat.le_of_ble_eq_true rfl | decide) dX10_lay_3 ⟨Nat.zero_le _, Nat.zero_le _⟩) ?_
  refine zb_eq (tgt := 17) hx hb dX10_lay_6 (by decide) (fun c6 => ?_) (fun c6 => ?_)
  · refine lv_bipush (v := (-2)) hx hb dX10_lay_17 (by decide) ?_
    exact re_Q hx hb hr hlocks (rfl) hw hS dX10_lay_19 (Or.inl ⟨by simp [c6], rfl, rfl⟩)
  · refine lv_iload hx hb dX10_lay_9 (lv_at hl 4 rfl) ?_
    refine cSe (rST (As := [_]) ⟨hx, hb, hml, hown, hts⟩ (k_X10_isSheet l ) (cv_X10_isSheet hts tw_791 rfl rfl ⟨Nat.le_of_ble_eq_true rfl, Nat.le_of_ble_eq_true rfl⟩) rfl hl.1 rfl (by first | exact Nat.le_of_ble_eq_true rfl | decide) dX10_lay_11 ⟨Nat.zero_le _, Nat.zero_le _⟩) ?_
    refine zb_ne (tgt := 20) hx hb dX10_lay_14 (by decide) (fun c14 => ?_) (fun c14 => ?_)
    · obtain ⟨s0, hs0, rfl⟩ := isSh_s c14
      have sk := sa s0 hs0
      have sj := sb s0 hs0
      have zl := hsz s0 hs0
      refine lv_aload_n hx hb dX10_lay_20 rfl (lv_at hl 0 rfl) ?_
      refine w_get (C := RX10) (T := TX10) (N := 12) 7 hx hb hts inX10 hown hw (by decide) o1 rfl (by decide) (hts _ tw_159) rfl dX10_lay_21 ?_
      refine lv_iload hx hb dX10_lay_24 (lv_at hl 4 rfl) ?_
      refine w_aald (j := s0) (v := gad G (19 + 2 * s0)) hx hb hw (by decide) sh0 (t0 := 1) rfl (rfl) (hs0) (by decide) rfl dX10_lay_26 ?_
      refine cSe (rV (As := []) ⟨hx, hb, hml, hown, hts⟩ hw (k_X6_isMissing l (by omega) (by omega) sk sj zl) (cv_X6_isMissing hts tw_806 rfl rfl ⟨Nat.le_of_ble_eq_true rfl, Nat.le_of_ble_eq_true rfl⟩) (by omega) sk rfl rfl hl.1 rfl (by first | exact Nat.le_of_ble_eq_true rfl | decide) dX10_lay_27 ⟨Nat.zero_le _, Nat.zero_le _⟩) ?_
      refine zb_eq (tgt := 36) hx hb dX10_lay_30 (by decide) (fun c30 => ?_) (fun c30 => ?_)
      · have hal := c6
        simp only [Bool.and_eq_true] at hal
        obtain ⟨⟨ha1, ha2⟩, ha3⟩ := hal
        obtain ⟨p0, hp0, rfl⟩ := isP_t ha1
        have ht := isSh_t ha3
        have hsz9 := sz_le ht
        have hal9 := c6
        refine lv_aload_n hx hb dX10_lay_36 rfl (lv_at hl 0 rfl) ?_
        refine w_get (C := RX10) (T := TX10) (N := 12) 6 hx hb hts inX10 hown hw (by decide) o1 rfl (by decide) (hts _ tw_158) rfl dX10_lay_37 ?_
        refine lv_aload_n hx hb dX10_lay_40 rfl (lv_at hl 0 rfl) ?_
        refine w_get (C := RX10) (T := TX10) (N := 12) 0 hx hb hts inX10 hown hw (by decide) o1 rfl (by decide) (hts _ tw_152) rfl dX10_lay_41 ?_
        refine lv_iload_n hx hb dX10_lay_44 rfl (lv_at hl 1 rfl) ?_
        refine lv_iload_n hx hb dX10_lay_45 rfl (lv_at hl 2 rfl) ?_
        refine lv_iload_n hx hb dX10_lay_46 rfl (lv_at hl 3 rfl) ?_
        refine cQv (rV (As := [_, _, _, _]) ⟨hx, hb, hml, hown, hts⟩ hw (k_X3_follow l l1 l2 hm h1 h2 hn hp0 ht) (cv_X3_follow hts tw_362 rfl rfl ⟨Nat.le_of_ble_eq_true rfl, Nat.le_of_ble_eq_true rfl⟩) (by decide) l1 rfl rfl hl.1 rfl (by first | exact Nat.le_of_ble_eq_true rfl | decide) dX10_lay_47 ⟨Nat.zero_le _, Nat.zero_le _⟩) hw hS (fun w1 H locs hp47 hw hS => ?_)
        have o1_1 : w1 0 = .inr (8, [.ref (gad G 1), .ref (gad G 3), .ref (gad G 5), .ref (gad G 8), .ref (gad G 9), .ref (gad G 11), .ref (gad G 16), .ref (gad G 18), .int (bi im), .ref (gad G 27), .ref (gad G 29), .int iz]) := by rw [hp47]; exact (vu_e (by first | decide | omega) (vu_e (by first | decide | omega) o1))
        have h1_1 : w1 1 = .inr (0, [.ref (gad G 2), .int (nI n)]) := by rw [hp47]; exact (vu_e (by first | decide | omega) (vu_e (by first | decide | omega) h1))
        have h2_1 : w1 2 = .inl (gI G, 132, .inl f) := by rw [hp47]; exact (vu_e (by first | decide | omega) (vu_e (by first | decide | omega) h2))
        have l1_1 : w1 16 = .inr (2, [.ref (gad G 17), .int (nI (szN t))]) := by rw [hp47]; exact vu_e (by decide) vu_s
        have l2_1 : w1 17 = .inl (gI G, 100, .inl (flF f n p0 d t g (szN t))) := by rw [hp47]; exact vu_s
        have sh0_1 : w1 18 = .inl (gS G, 4, .inr (.inr (.inr (.inr (fun s => some (gad G (19 + 2 * s))))))) := by rw [hp47]; exact (vu_e (by first | decide | omega) (vu_e (by first | decide | omega) sh0))
        have sk_1 : w1 (19 + 2 * s0) = .inr (5, [.ref (gad G (20 + 2 * s0)), .int (ss s0), .int (nI (sz s0))]) := by rw [hp47]; exact (vu_e (by first | decide | omega) (vu_e (by first | decide | omega) sk))
        have sj_1 : w1 (20 + 2 * s0) = .inl (gI G, 40, .inl (sg s0)) := by rw [hp47]; exact (vu_e (by first | decide | omega) (vu_e (by first | decide | omega) sj))
        refine lv_aload_n hx hb dX10_lay_50 rfl (lv_at hl 0 rfl) ?_
        refine w_get (C := RX10) (T := TX10) (N := 12) 6 hx hb hts inX10 hown hw (by decide) o1_1 rfl (by decide) (hts _ tw_158) rfl dX10_lay_51 ?_
        refine cSe (rV (As := []) ⟨hx, hb, hml, hown, hts⟩ hw (k_X3_size l l1_1 l2_1 hsz9.1) (cv_X3_size hts tw_851 rfl rfl ⟨Nat.le_of_ble_eq_true rfl, Nat.le_of_ble_eq_true rfl⟩) (by decide) l1_1 rfl rfl hl.1 rfl (by first | exact Nat.le_of_ble_eq_true rfl | decide) dX10_lay_54 ⟨Nat.zero_le _, Nat.zero_le _⟩) ?_
        refine lv_aload_n hx hb dX10_lay_57 rfl (lv_at hl 0 rfl) ?_
        refine w_get (C := RX10) (T := TX10) (N := 12) 7 hx hb hts inX10 hown hw (by decide) o1_1 rfl (by decide) (hts _ tw_159) rfl dX10_lay_58 ?_
        refine lv_iload hx hb dX10_lay_61 (lv_at hl 4 rfl) ?_
        refine w_aald (j := s0) (v := gad G (19 + 2 * s0)) hx hb hw (by decide) sh0_1 (t0 := 1) rfl (rfl) (hs0) (by decide) rfl dX10_lay_63 ?_
        refine cSe (rV (As := []) ⟨hx, hb, hml, hown, hts⟩ hw (k_X6_size l (by omega) (by omega) sk_1 sj_1 zl) (cv_X6_size hts tw_810 rfl rfl ⟨Nat.le_of_ble_eq_true rfl, Nat.le_of_ble_eq_true rfl⟩) (by omega) sk_1 rfl rfl hl.1 rfl (by first | exact Nat.le_of_ble_eq_true rfl | decide) dX10_lay_64 ⟨Nat.zero_le _, Nat.zero_le _⟩) ?_
        refine va_mmin hx hb (hml.trans hl.1.symm) hown (hts _ tw_855) (hts _ tw_328) (hts _ tw_13) (hts _ tw_329) (Nat.le_of_ble_eq_true rfl) (Nat.le_of_ble_eq_true rfl) (Nat.zero_le _) (Nat.zero_le _) dX10_lay_67 ?_
        refine tp (y := nI (min (szN t) (sz s0))) (nI_min (by omega) (by omega)) ?_
        have hq9 : min (szN t) (sz s0) ≤ szN t := Nat.min_le_left _ _
        have hq8 : min (szN t) (sz s0) ≤ sz s0 := Nat.min_le_right _ _
        refine lv_istore (lv' := [(5, _), (0, _), (1, _), (2, _), (3, _), (4, _)]) hx hb dX10_lay_70 hl (by decide) rfl (fun ls hl => ?_)
        refine lv_iconst (v := 0) hx hb dX10_lay_72 (by decide) ?_
        refine lv_istore (lv' := [(6, _), (5, _), (0, _), (1, _), (2, _), (3, _), (4, _)]) hx hb dX10_lay_73 hl (by decide) rfl (fun ls hl => ?_)
        have L75 : ∀ (N : Nat) (i : Nat) (fz : Nat → Int32), (i + N = min (szN t) (sz s0)) → (fz = lyF (sg s0) (ss s0) (og f n p0 d t) i) → ∀ (c0 : Nat → va_E) (H : Heap) (locs : List Loc), (c0 = va_up (va_up (va_up c 16 (.inr (2, [.ref (gad G 17), .int (nI (szN t))]))) 17 (.inl (gI G, 100, .inl (flF f n p0 d t g (szN t))))) (20 + 2 * s0) (.inl (gI G, 40, .inl fz))) → Hw G c0 s H → va_S (gA G) s.heap H locs → ∀ ls : Array Slot, lv_has ls 7 [(6, .int (nI i)), (5, .int (nI (min (szN t) (sz s0)))), (4, .int (nI s0)), (3, .int t), (2, .int d), (1, .int (nI p0)), (0, .ref (gad G 0))] → W p l e ({ frames := 5, cells := 0, slots := 0, locals := 121 } : Room) s m (([.ref (gad G 0), .int (nI p0), .int d, .int t, .int (nI s0)] : List Value).toArray) below meth cd H locs 0 0 (MQ below (va_Qi (fun r (c9 : Nat → va_E) => ((isP (nI p0) && isDy d && isSh t && isSh (nI s0)) = false ∧ r = -2 ∧ c9 = c) ∨ (∃ j9, j9 < 4 ∧ (nI s0) = nI j9 ∧ (isP (nI p0) && isDy d && isSh t) = true ∧ ((ss j9 = -1 ∧ r = -11 ∧ c9 = c) ∨ (ss j9 ≠ -1 ∧ r = nI (min (szN t) (sz j9)) ∧ ∃ (m8 : Nat) (g8 : Nat → Int32), m8 ≤ 100 ∧ c9 = va_up (va_up (va_up c 16 (.inr (2, [.ref (gad G 17), .int (nI m8)]))) 17 (.inl (gI G, 100, .inl g8))) (20 + 2 * j9) (.inl (gI G, 40, .inl (lyF (sg j9) (ss j9) (og f n (pN (nI p0)) d t) (min (szN t) (sz j9))))))))) (fun c9 t => Hw G c9 t t.heap) (gA G)) ([.ref (gad G 0), .int (nI p0), .int d, .int t, .int (nI s0)] : List Value).toArray s 0 0 (gA G)) (F0 m 75 ls []) := by
          intro N
          induction N with
          | zero =>
            intro i  fz  hN hz c0 H locs e0 hw hS ls hl
            have hin : i = min (szN t) (sz s0) := by omega
            refine lv_iload hx hb dX10_lay_75 (lv_at hl 0 rfl) ?_
            refine lv_iload hx hb dX10_lay_77 (lv_at hl 1 rfl) ?_
            refine lv_icmp_ge (tgt := 109) hx hb dX10_lay_79 (by decide) (fun c79 => ?_) (fun q => absurd (nI_le (by omega) (by omega)) q)
            refine lv_iload hx hb dX10_lay_109 (lv_at hl 1 rfl) ?_
            exact re_Q hx hb hr hlocks (rfl) hw hS dX10_lay_111 (Or.inr ⟨s0, hs0, rfl, hal9, Or.inr ⟨of_decide_eq_false c30, rfl, szN t, flF f n p0 d t g (szN t), hsz9.1, by rw [e0, hz, hin, pN_nI hp0]⟩⟩)
          | succ N ih =>
            intro i  fz  hN hz c0 H locs e0 hw hS ls hl
            have o1 : c0 0 = .inr (8, [.ref (gad G 1), .ref (gad G 3), .ref (gad G 5), .ref (gad G 8), .ref (gad G 9), .ref (gad G 11), .ref (gad G 16), .ref (gad G 18), .int (bi im), .ref (gad G 27), .ref (gad G 29), .int iz]) := by rw [e0]; exact vu_e (by omega) (vu_e (by omega) (vu_e (by omega) o1))
            have h1 : c0 1 = .inr (0, [.ref (gad G 2), .int (nI n)]) := by rw [e0]; exact vu_e (by omega) (vu_e (by omega) (vu_e (by omega) h1))
            have h2 : c0 2 = .inl (gI G, 132, .inl f) := by rw [e0]; exact vu_e (by omega) (vu_e (by omega) (vu_e (by omega) h2))
            have l1 : c0 16 = .inr (2, [.ref (gad G 17), .int (nI (szN t))]) := by rw [e0]; exact vu_e (by omega) (vu_e (by decide) vu_s)
            have l2 : c0 17 = .inl (gI G, 100, .inl (flF f n p0 d t g (szN t))) := by rw [e0]; exact vu_e (by omega) vu_s
            have sh0 : c0 18 = .inl (gS G, 4, .inr (.inr (.inr (.inr (fun s => some (gad G (19 + 2 * s))))))) := by rw [e0]; exact vu_e (by omega) (vu_e (by omega) (vu_e (by omega) sh0))
            have sk : c0 (19 + 2 * s0) = .inr (5, [.ref (gad G (20 + 2 * s0)), .int (ss s0), .int (nI (sz s0))]) := by rw [e0]; exact vu_e (by omega) (vu_e (by omega) (vu_e (by omega) sk))
            have sj : c0 (20 + 2 * s0) = .inl (gI G, 40, .inl fz) := by rw [e0]; exact vu_s
            refine lv_iload hx hb dX10_lay_75 (lv_at hl 0 rfl) ?_
            refine lv_iload hx hb dX10_lay_77 (lv_at hl 1 rfl) ?_
            refine lv_icmp_ge (tgt := 109) hx hb dX10_lay_79 (by decide) (fun q => absurd q (nI_ge (by omega) (by omega))) (fun c79 => ?_)
            refine lv_aload_n hx hb dX10_lay_82 rfl (lv_at hl 6 rfl) ?_
            refine w_get (C := RX10) (T := TX10) (N := 12) 7 hx hb hts inX10 hown hw (by decide) o1 rfl (by decide) (hts _ tw_159) rfl dX10_lay_83 ?_
            refine lv_iload hx hb dX10_lay_86 (lv_at hl 2 rfl) ?_
            refine w_aald (j := s0) (v := gad G (19 + 2 * s0)) hx hb hw (by decide) sh0 (t0 := 1) rfl (rfl) (hs0) (by decide) rfl dX10_lay_88 ?_
            refine lv_iload hx hb dX10_lay_89 (lv_at hl 0 rfl) ?_
            refine lv_aload_n hx hb dX10_lay_91 rfl (lv_at hl 6 rfl) ?_
            refine w_get (C := RX10) (T := TX10) (N := 12) 6 hx hb hts inX10 hown hw (by decide) o1 rfl (by decide) (hts _ tw_158) rfl dX10_lay_92 ?_
            refine lv_iload hx hb dX10_lay_95 (lv_at hl 0 rfl) ?_
            refine cSe (rV (As := [_]) ⟨hx, hb, hml, hown, hts⟩ hw (k_X3_at l l1 l2 hsz9.1 (by omega)) (cv_X3_at hts tw_379 rfl rfl ⟨Nat.le_of_ble_eq_true rfl, Nat.le_of_ble_eq_true rfl⟩) (by decide) l1 rfl rfl hl.1 rfl (by first | exact Nat.le_of_ble_eq_true rfl | decide) dX10_lay_97 ⟨Nat.zero_le _, Nat.zero_le _⟩) ?_
            refine tp (y := og f n p0 d t i) (flF_og i (by omega)) ?_
            refine cQv (rV (As := [_, _]) ⟨hx, hb, hml, hown, hts⟩ hw (k_X6_put l (by omega) (by omega) sk sj zl (by omega)) (cv_X6_put hts tw_814 rfl rfl ⟨Nat.le_of_ble_eq_true rfl, Nat.le_of_ble_eq_true rfl⟩) (by omega) sk rfl rfl hl.1 rfl (by first | exact Nat.le_of_ble_eq_true rfl | decide) dX10_lay_100 ⟨Nat.zero_le _, Nat.zero_le _⟩) hw hS (fun w2 H locs hp100 hw hS => ?_)
            refine lv_iinc (v := nI (i + 1)) (lv' := [(6, _), (5, _), (4, _), (3, _), (2, _), (1, _), (0, _)]) hx hb dX10_lay_103 hl (k := 0) rfl (inc1 i) (by decide) rfl (fun ls hl => ?_)
            refine lv_goto (tgt := 75) hx hb dX10_lay_106 (by decide) ?_
            exact ih (i + 1) (lyF (sg s0) (ss s0) (og f n p0 d t) (i + 1)) (by omega) rfl _ H locs (by rw [hp100, e0, up_up, hz, lyF_s]) hw hS ls (lv_sub hl [0, 1, 2, 3, 4, 5, 6] rfl)
        exact L75 (min (szN t) (sz s0)) 0 (sg s0) (by omega) (lyF_0 _ _ _).symm _ H locs (by rw [hp47]; exact (up_id (by rw [vu_n (by omega), vu_n (by omega)]; exact sb s0 hs0)).symm) hw hS ls (lv_sub hl [0, 1, 6, 5, 4, 3, 2] rfl)
      · refine lv_bipush (v := (-11)) hx hb dX10_lay_33 (by decide) ?_
        exact re_Q hx hb hr hlocks (rfl) hw hS dX10_lay_35 (Or.inr ⟨s0, hs0, rfl, c6, Or.inl ⟨of_decide_eq_true c30, rfl, rfl⟩⟩)
    · refine lv_bipush (v := (-2)) hx hb dX10_lay_17 (by decide) ?_
      exact re_Q hx hb hr hlocks (rfl) hw hS dX10_lay_19 (Or.inl ⟨by simp [c6, c14], rfl, rfl⟩)
