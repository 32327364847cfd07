set_option maxHeartbeats 4000000 in
set_option maxRecDepth 100000 in
theorem k_X11_best (l : Launch) {G : GT} {c : Nat → va_E} {n n1 rn tn n2 qn : Nat} {z hd sd fr tto tk wo iz : Int32} {im : Bool} (o1 : c 32 = .inr (9, [.ref (gad G 33), .ref (gad G 34), .ref (gad G 35), .int (nI n), .int (nI n1), .int z, .int hd, .int sd, .ref (gad G 36), .ref (gad G 37), .int (nI rn), .ref (gad G 38), .int (nI tn), .int fr, .int tto, .int tk, .int wo, .ref (gad G 39), .ref (gad G 40), .ref (gad G 41), .ref (gad G 42), .ref (gad G 43), .ref (gad G 44), .int (nI n2), .int (nI qn), .int iz, .int (bi im)])) {f : Nat → Int32} (a1 : c 33 = .inl (gI G, 132, .inl f)) (hn : n ≤ 12) {a d t w : Int32} (hI : cI f n) : Met l yX11_best (wv yX11_best cX11_best 9 (some .int)) ({ frames := 6, cells := 0, slots := 0, locals := 142 } : Room) (va_Pc [.ref (gad G 32), .int a, .int d, .int t, .int w] (fun U => Hw G c U U.heap)) (va_Qi (fun r (c9 : Nat → va_E) => r = spBest f n a d t w ∧ ∃ h8 s8 : Int32, c9 = va_up c 32 (.inr (9, [.ref (gad G 33), .ref (gad G 34), .ref (gad G 35), .int (nI n), .int (nI n1), .int z, .int (h8), .int (s8), .ref (gad G 36), .ref (gad G 37), .int (nI rn), .ref (gad G 38), .int (nI tn), .int fr, .int tto, .int tk, .int wo, .ref (gad G 39), .ref (gad G 40), .ref (gad G 41), .ref (gad G 42), .ref (gad G 43), .ref (gad G 44), .int (nI n2), .int (nI qn), .int iz, .int (bi im)]))) (fun c9 t => Hw G c9 t t.heap) (gA G)) 0 0 (gA G) := by
  refine en (by decide +kernel) (by first | exact Nat.le_of_ble_eq_true rfl | decide) ?_
  intro p e s m below meth cd ls hx hb hr hml hown hts hlocks hnm hw hl
  have hl : lv_has ls 9 [(0, .ref (gad G 32)), (1, .int a), (2, .int d), (3, .int t), (4, .int w)] := hl
  have hX : Sw G s s.heap := hw.2.2.2.2.2
  have hS : va_S (gA G) s.heap s.heap [] := va_S.rf
  obtain ⟨H, hH⟩ : ∃ wz9, wz9 = s.heap := ⟨_, rfl⟩
  obtain ⟨locs, hlocs⟩ : ∃ wz9 : List Loc, wz9 = [] := ⟨_, rfl⟩
  have hw : Hw G c s H := by rw [hH]; exact hw
  have hS : va_S (gA G) s.heap H locs := by rw [hH, hlocs]; exact hS
  suffices hgo : W p l e ({ frames := 6, cells := 0, slots := 0, locals := 142 } : Room) s m (([.ref (gad G 32), .int a, .int d, .int t, .int w] : List Value).toArray) below meth cd H locs 0 0 (MQ below (va_Qi (fun r (c9 : Nat → va_E) => r = spBest f n a d t w ∧ ∃ h8 s8 : Int32, c9 = va_up c 32 (.inr (9, [.ref (gad G 33), .ref (gad G 34), .ref (gad G 35), .int (nI n), .int (nI n1), .int z, .int (h8), .int (s8), .ref (gad G 36), .ref (gad G 37), .int (nI rn), .ref (gad G 38), .int (nI tn), .int fr, .int tto, .int tk, .int wo, .ref (gad G 39), .ref (gad G 40), .ref (gad G 41), .ref (gad G 42), .ref (gad G 43), .ref (gad G 44), .int (nI n2), .int (nI qn), .int iz, .int (bi im)]))) (fun c9 t => Hw G c9 t t.heap) (gA G)) ([.ref (gad G 32), .int a, .int d, .int t, .int w] : List Value).toArray s 0 0 (gA G)) (F0 m 0 ls []) by rw [hH, hlocs] at hgo; exact hgo
  refine lv_iload_n hx hb dX11_best_0 rfl (lv_at hl 1 rfl) ?_
  refine lv_iload_n hx hb dX11_best_1 rfl (lv_at hl 2 rfl) ?_
  refine lv_iload_n hx hb dX11_best_2 rfl (lv_at hl 3 rfl) ?_
  refine cSe (rST (As := [_, _, _]) ⟨hx, hb, hml, hown, hts⟩ (k_X11_isAlong l ) (cv_X11_isAlong hts tw_1098 rfl rfl ⟨Nat.le_of_ble_eq_true rfl, Nat.le_of_ble_eq_true rfl⟩) rfl hl.1 rfl (by first | exact Nat.le_of_ble_eq_true rfl | decide) dX11_best_3 ⟨Nat.zero_le _, Nat.zero_le _⟩) ?_
  refine zb_eq (tgt := 19) hx hb dX11_best_6 (by decide) (fun c6 => ?_) (fun c6 => ?_)
  · refine lv_bipush (v := (-2)) hx hb dX11_best_19 (by decide) ?_
    exact re_Q hx hb hr hlocks (rfl) hw hS dX11_best_21 (⟨by rw [spBest, c6]; rfl, ⟨hd, sd, (up_id o1).symm⟩⟩)
  · refine lv_iload hx hb dX11_best_9 (lv_at hl 4 rfl) ?_
    refine lv_iconst (v := 0) hx hb dX11_best_11 (by decide) ?_
    refine lv_iconst (v := 1) hx hb dX11_best_12 (by decide) ?_
    refine cSe (rST (As := [_, _, _]) ⟨hx, hb, hml, hown, hts⟩ (k_X11_in l ) (cv_X11_in hts tw_987 rfl rfl ⟨Nat.le_of_ble_eq_true rfl, Nat.le_of_ble_eq_true rfl⟩) rfl hl.1 rfl (by first | exact Nat.le_of_ble_eq_true rfl | decide) dX11_best_13 ⟨Nat.zero_le _, Nat.zero_le _⟩) ?_
    refine zb_ne (tgt := 22) hx hb dX11_best_16 (by decide) (fun c16 => ?_) (fun c16 => ?_)
    · have hal := c6
      simp only [Bool.and_eq_true] at hal
      obtain ⟨⟨ha1, ha2⟩, ha3⟩ := hal
      obtain ⟨p0, hp0, rfl⟩ := isP_t ha1
      have ht := isSh_t ha3
      have hsz := sz_le ht
      have hszm := szN_m ht
      refine lv_iconst (v := 0) hx hb dX11_best_22 (by decide) ?_
      refine lv_istore (lv' := [(5, _), (0, _), (1, _), (2, _), (3, _), (4, _)]) hx hb dX11_best_23 hl (by decide) rfl (fun ls hl => ?_)
      refine lv_iconst (v := (-1)) hx hb dX11_best_25 (by decide) ?_
      refine lv_istore (lv' := [(6, _), (5, _), (0, _), (1, _), (2, _), (3, _), (4, _)]) hx hb dX11_best_26 hl (by decide) rfl (fun ls hl => ?_)
      refine lv_iconst (v := 0) hx hb dX11_best_28 (by decide) ?_
      refine lv_istore (lv' := [(7, _), (6, _), (5, _), (0, _), (1, _), (2, _), (3, _), (4, _)]) hx hb dX11_best_29 hl (by decide) rfl (fun ls hl => ?_)
      have L31 : ∀ (N : Nat) (i : Nat) (x y h7 s7 : Int32), (i + N = szN t) → ((x, y) = bst (og f n p0 d t) i) → ∀ (c0 : Nat → va_E) (H : Heap) (locs : List Loc), (c0 = va_up c 32 (.inr (9, [.ref (gad G 33), .ref (gad G 34), .ref (gad G 35), .int (nI n), .int (nI n1), .int z, .int (h7), .int (s7), .ref (gad G 36), .ref (gad G 37), .int (nI rn), .ref (gad G 38), .int (nI tn), .int fr, .int tto, .int tk, .int wo, .ref (gad G 39), .ref (gad G 40), .ref (gad G 41), .ref (gad G 42), .ref (gad G 43), .ref (gad G 44), .int (nI n2), .int (nI qn), .int iz, .int (bi im)]))) → Hw G c0 s H → va_S (gA G) s.heap H locs → ∀ ls : Array Slot, lv_has ls 9 [(7, .int (nI i)), (6, .int y), (5, .int x), (4, .int w), (3, .int t), (2, .int d), (1, .int (nI p0)), (0, .ref (gad G 32))] → W p l e ({ frames := 6, cells := 0, slots := 0, locals := 142 } : Room) s m (([.ref (gad G 32), .int (nI p0), .int d, .int t, .int w] : List Value).toArray) below meth cd H locs 0 0 (MQ below (va_Qi (fun r (c9 : Nat → va_E) => r = spBest f n (nI p0) d t w ∧ ∃ h8 s8 : Int32, c9 = va_up c 32 (.inr (9, [.ref (gad G 33), .ref (gad G 34), .ref (gad G 35), .int (nI n), .int (nI n1), .int z, .int (h8), .int (s8), .ref (gad G 36), .ref (gad G 37), .int (nI rn), .ref (gad G 38), .int (nI tn), .int fr, .int tto, .int tk, .int wo, .ref (gad G 39), .ref (gad G 40), .ref (gad G 41), .ref (gad G 42), .ref (gad G 43), .ref (gad G 44), .int (nI n2), .int (nI qn), .int iz, .int (bi im)]))) (fun c9 t => Hw G c9 t t.heap) (gA G)) ([.ref (gad G 32), .int (nI p0), .int d, .int t, .int w] : List Value).toArray s 0 0 (gA G)) (F0 m 31 ls []) := by
        intro N
        induction N with
        | zero =>
          intro i  x y h7 s7  hN hA c0 H locs e0 hw hS ls hl
          have hin : i = szN t := by omega
          refine lv_iload hx hb dX11_best_31 (lv_at hl 0 rfl) ?_
          refine lv_iload_n hx hb dX11_best_33 rfl (lv_at hl 4 rfl) ?_
          refine cSe (rST (As := [_]) ⟨hx, hb, hml, hown, hts⟩ (k_X11_sizeOf l ) (cv_X11_sizeOf hts tw_1040 rfl rfl ⟨Nat.le_of_ble_eq_true rfl, Nat.le_of_ble_eq_true rfl⟩) rfl hl.1 rfl (by first | exact Nat.le_of_ble_eq_true rfl | decide) dX11_best_34 ⟨Nat.zero_le _, Nat.zero_le _⟩) ?_
          refine tp (y := nI (szN t)) hszm ?_
          refine lv_icmp_ge (tgt := 92) hx hb dX11_best_37 (by decide) (fun c37 => ?_) (fun q => absurd (nI_le (by omega) (by omega)) q)
          refine lv_iload hx hb dX11_best_92 (lv_at hl 3 rfl) ?_
          refine lv_if_ne (tgt := 102) hx hb dX11_best_94 (by decide) (fun c94 => ?_) (fun c94 => ?_)
          · refine lv_iload hx hb dX11_best_102 (lv_at hl 1 rfl) ?_
            exact re_Q hx hb hr hlocks (rfl) hw hS dX11_best_104 (⟨by rw [spBest, show (isP (nI p0) && isDy d && isSh t) = true from c6, c16, pN_nI hp0]; have hb := bst_eq (g := (og f n p0 d t)) (ocm_nn hn hI (wth_lt hp0 ht (by omega))) (szN t - 1); rw [show szN t - 1 + 1 = szN t by omega, ← hin, ← hA] at hb; rw [← hin]; rw [if_neg c94]; exact congrArg Prod.snd hb, _, _, e0⟩)
          · refine lv_iload hx hb dX11_best_97 (lv_at hl 2 rfl) ?_
            refine lv_goto (tgt := 104) hx hb dX11_best_99 (by decide) ?_
            exact re_Q hx hb hr hlocks (rfl) hw hS dX11_best_104 (⟨by rw [spBest, show (isP (nI p0) && isDy d && isSh t) = true from c6, c16, pN_nI hp0]; have hb := bst_eq (g := (og f n p0 d t)) (ocm_nn hn hI (wth_lt hp0 ht (by omega))) (szN t - 1); rw [show szN t - 1 + 1 = szN t by omega, ← hin, ← hA] at hb; rw [← hin]; rw [if_pos c94]; exact congrArg Prod.fst hb, _, _, e0⟩)
        | succ N ih =>
          intro i  x y h7 s7  hN hA c0 H locs e0 hw hS ls hl
          have o1 : c0 32 = .inr (9, [.ref (gad G 33), .ref (gad G 34), .ref (gad G 35), .int (nI n), .int (nI n1), .int z, .int (h7), .int (s7), .ref (gad G 36), .ref (gad G 37), .int (nI rn), .ref (gad G 38), .int (nI tn), .int fr, .int tto, .int tk, .int wo, .ref (gad G 39), .ref (gad G 40), .ref (gad G 41), .ref (gad G 42), .ref (gad G 43), .ref (gad G 44), .int (nI n2), .int (nI qn), .int iz, .int (bi im)]) := by rw [e0]; exact vu_s
          have a1 : c0 33 = .inl (gI G, 132, .inl f) := by rw [e0]; exact vu_e (by decide) a1
          refine lv_iload hx hb dX11_best_31 (lv_at hl 0 rfl) ?_
          refine lv_iload_n hx hb dX11_best_33 rfl (lv_at hl 4 rfl) ?_
          refine cSe (rST (As := [_]) ⟨hx, hb, hml, hown, hts⟩ (k_X11_sizeOf l ) (cv_X11_sizeOf hts tw_1040 rfl rfl ⟨Nat.le_of_ble_eq_true rfl, Nat.le_of_ble_eq_true rfl⟩) rfl hl.1 rfl (by first | exact Nat.le_of_ble_eq_true rfl | decide) dX11_best_34 ⟨Nat.zero_le _, Nat.zero_le _⟩) ?_
          refine tp (y := nI (szN t)) hszm ?_
          refine lv_icmp_ge (tgt := 92) hx hb dX11_best_37 (by decide) (fun q => absurd q (nI_ge (by omega) (by omega))) (fun c37 => ?_)
          refine lv_aload_n hx hb dX11_best_40 rfl (lv_at hl 7 rfl) ?_
          refine lv_iload_n hx hb dX11_best_41 rfl (lv_at hl 6 rfl) ?_
          refine lv_iload_n hx hb dX11_best_42 rfl (lv_at hl 4 rfl) ?_
          refine lv_iload hx hb dX11_best_43 (lv_at hl 0 rfl) ?_
          refine cSe (rST (As := [_, _, _]) ⟨hx, hb, hml, hown, hts⟩ (k_X11_with l hp0 ht) (cv_X11_with hts tw_1101 rfl rfl ⟨Nat.le_of_ble_eq_true rfl, Nat.le_of_ble_eq_true rfl⟩) rfl hl.1 rfl (by first | exact Nat.le_of_ble_eq_true rfl | decide) dX11_best_45 ⟨Nat.zero_le _, Nat.zero_le _⟩) ?_
          refine lv_iload_n hx hb dX11_best_48 rfl (lv_at hl 5 rfl) ?_
          refine cQi (rV (As := [_, _]) ⟨hx, hb, hml, hown, hts⟩ hw (k_X11_isNow l o1 a1 hn (wth_lt hp0 ht (by omega)) hI) (cv_X11_isNow hts tw_1053 rfl rfl ⟨Nat.le_of_ble_eq_true rfl, Nat.le_of_ble_eq_true rfl⟩) (by decide) o1 rfl rfl hl.1 rfl (by first | exact Nat.le_of_ble_eq_true rfl | decide) dX11_best_49 ⟨Nat.zero_le _, Nat.zero_le _⟩) hw hS (fun r49 w1 H locs hp49 hw hS => ?_)
          obtain ⟨er49, ec49⟩ := hp49
          subst er49
          have o1_1 : w1 32 = .inr (9, [.ref (gad G 33), .ref (gad G 34), .ref (gad G 35), .int (nI n), .int (nI n1), .int z, .int (hdM f n (wthN p0 t i) d), .int (stM f n (wthN p0 t i) d), .ref (gad G 36), .ref (gad G 37), .int (nI rn), .ref (gad G 38), .int (nI tn), .int fr, .int tto, .int tk, .int wo, .ref (gad G 39), .ref (gad G 40), .ref (gad G 41), .ref (gad G 42), .ref (gad G 43), .ref (gad G 44), .int (nI n2), .int (nI qn), .int iz, .int (bi im)]) := by rw [ec49]; exact vu_s
          have a1_1 : w1 33 = .inl (gI G, 132, .inl f) := by rw [ec49]; exact (vu_e (by decide) a1)
          refine lv_istore (lv' := [(8, _), (7, _), (6, _), (5, _), (4, _), (3, _), (2, _), (1, _), (0, _)]) hx hb dX11_best_52 hl (by decide) rfl (fun ls hl => ?_)
          refine lv_iload hx hb dX11_best_54 (lv_at hl 0 rfl) ?_
          refine lv_iload hx hb dX11_best_56 (lv_at hl 2 rfl) ?_
          refine lv_icmp_le (tgt := 66) hx hb dX11_best_58 (by decide) (fun c58 => ?_) (fun c58 => ?_)
          · refine lv_iload hx hb dX11_best_66 (lv_at hl 3 rfl) ?_
            refine lv_istore (lv' := [(5, _), (8, _), (7, _), (6, _), (4, _), (3, _), (2, _), (1, _), (0, _)]) hx hb dX11_best_68 hl (by decide) rfl (fun ls hl => ?_)
            refine lv_iload hx hb dX11_best_70 (lv_at hl 1 rfl) ?_
            refine lv_iload hx hb dX11_best_72 (lv_at hl 3 rfl) ?_
            refine lv_icmp_le (tgt := 82) hx hb dX11_best_74 (by decide) (fun c74 => ?_) (fun q => absurd (c58) q)
            refine lv_iload hx hb dX11_best_82 (lv_at hl 3 rfl) ?_
            refine lv_istore (lv' := [(6, _), (5, _), (8, _), (7, _), (4, _), (3, _), (2, _), (1, _), (0, _)]) hx hb dX11_best_84 hl (by decide) rfl (fun ls hl => ?_)
            refine lv_iinc (v := nI (i + 1)) (lv' := [(7, _), (6, _), (5, _), (8, _), (4, _), (3, _), (2, _), (1, _), (0, _)]) hx hb dX11_best_86 hl (k := 3) rfl (inc1 i) (by decide) rfl (fun ls hl => ?_)
            refine lv_goto (tgt := 31) hx hb dX11_best_89 (by decide) ?_
            exact ih (i + 1) _ _ _ _ (by omega) (by rw [bst, ← hA]; have e8 : (og f n p0 d t) i = ocm f n (wthN p0 t i) d := rfl; rw [e8]; rw [if_neg (Int32.not_lt.mpr c58), if_neg (Int32.not_lt.mpr c58)]) _ H locs (by rw [ec49, e0, up_up]) hw hS ls (lv_sub hl [0, 1, 2, 4, 5, 6, 7, 8] rfl)
          · skip
            refine lv_iload hx hb dX11_best_61 (lv_at hl 1 rfl) ?_
            refine lv_goto (tgt := 68) hx hb dX11_best_63 (by decide) ?_
            refine lv_istore (lv' := [(5, _), (8, _), (7, _), (6, _), (4, _), (3, _), (2, _), (1, _), (0, _)]) hx hb dX11_best_68 hl (by decide) rfl (fun ls hl => ?_)
            refine lv_iload hx hb dX11_best_70 (lv_at hl 1 rfl) ?_
            refine lv_iload hx hb dX11_best_72 (lv_at hl 3 rfl) ?_
            refine lv_icmp_le (tgt := 82) hx hb dX11_best_74 (by decide) (fun q => absurd q (Int32.not_le.mpr (Int32.not_le.mp c58))) (fun c74 => ?_)
            refine lv_iload hx hb dX11_best_77 (lv_at hl 1 rfl) ?_
            refine lv_goto (tgt := 84) hx hb dX11_best_79 (by decide) ?_
            refine lv_istore (lv' := [(6, _), (5, _), (8, _), (7, _), (4, _), (3, _), (2, _), (1, _), (0, _)]) hx hb dX11_best_84 hl (by decide) rfl (fun ls hl => ?_)
            refine lv_iinc (v := nI (i + 1)) (lv' := [(7, _), (6, _), (5, _), (8, _), (4, _), (3, _), (2, _), (1, _), (0, _)]) hx hb dX11_best_86 hl (k := 3) rfl (inc1 i) (by decide) rfl (fun ls hl => ?_)
            refine lv_goto (tgt := 31) hx hb dX11_best_89 (by decide) ?_
            exact ih (i + 1) _ _ _ _ (by omega) (by rw [bst, ← hA]; have e8 : (og f n p0 d t) i = ocm f n (wthN p0 t i) d := rfl; rw [e8]; rw [if_pos (Int32.not_le.mp c58), if_pos (Int32.not_le.mp c58)]) _ H locs (by rw [ec49, e0, up_up]) hw hS ls (lv_sub hl [0, 1, 2, 4, 5, 6, 7, 8] rfl)
      exact L31 (szN t) 0 0 (-1) hd sd (by omega) rfl _ H locs (up_id o1).symm hw hS ls (lv_sub hl [0, 1, 2, 7, 6, 5, 4, 3] rfl)
    · refine lv_bipush (v := (-2)) hx hb dX11_best_19 (by decide) ?_
      exact re_Q hx hb hr hlocks (rfl) hw hS dX11_best_21 (⟨by rw [spBest, c6, c16]; rfl, ⟨hd, sd, (up_id o1).symm⟩⟩)
set_option maxHeartbeats 4000000 in
set_option maxRecDepth 100000 in
theorem k_X11_enough (l : Launch) {G : GT} {c : Nat → va_E} {n n1 rn tn n2 qn : Nat} {z hd sd fr tto tk wo iz : Int32} {im : Bool} (o1 : c 32 = .inr (9, [.ref (gad G 33), .ref (gad G 34), .ref (gad G 35), .int (nI n), .int (nI n1), .int z, .int hd, .int sd, .ref (gad G 36), .ref (gad G 37), .int (nI rn), .ref (gad G 38), .int (nI tn), .int fr, .int tto, .int tk, .int wo, .ref (gad G 39), .ref (gad G 40), .ref (gad G 41), .ref (gad G 42), .ref (gad G 43), .ref (gad G 44), .int (nI n2), .int (nI qn), .int iz, .int (bi im)])) {f : Nat → Int32} (a1 : c 33 = .inl (gI G, 132, .inl f)) (hn : n ≤ 12) {a d t w : Int32} (hI : cI f n) : Met l yX11_enough (wv yX11_enough cX11_enough 6 (some .int)) ({ frames := 6, cells := 0, slots := 0, locals := 142 } : Room) (va_Pc [.ref (gad G 32), .int a, .int d, .int t, .int w] (fun U => Hw G c U U.heap)) (va_Qi (fun r (c9 : Nat → va_E) => r = spEnough f n a d t w ∧ ∃ h8 s8 : Int32, c9 = va_up c 32 (.inr (9, [.ref (gad G 33), .ref (gad G 34), .ref (gad G 35), .int (nI n), .int (nI n1), .int z, .int (h8), .int (s8), .ref (gad G 36), .ref (gad G 37), .int (nI rn), .ref (gad G 38), .int (nI tn), .int fr, .int tto, .int tk, .int wo, .ref (gad G 39), .ref (gad G 40), .ref (gad G 41), .ref (gad G 42), .ref (gad G 43), .ref (gad G 44), .int (nI n2), .int (nI qn), .int iz, .int (bi im)]))) (fun c9 t => Hw G c9 t t.heap) (gA G)) 0 0 (gA G) := by
  refine en (by decide +kernel) (by first | exact Nat.le_of_ble_eq_true rfl | decide) ?_
  intro p e s m below meth cd ls hx hb hr hml hown hts hlocks hnm hw hl
  have hl : lv_has ls 6 [(0, .ref (gad G 32)), (1, .int a), (2, .int d), (3, .int t), (4, .int w)] := hl
  have hX : Sw G s s.heap := hw.2.2.2.2.2
  have hS : va_S (gA G) s.heap s.heap [] := va_S.rf
  obtain ⟨H, hH⟩ : ∃ wz9, wz9 = s.heap := ⟨_, rfl⟩
  obtain ⟨locs, hlocs⟩ : ∃ wz9 : List Loc, wz9 = [] := ⟨_, rfl⟩
  have hw : Hw G c s H := by rw [hH]; exact hw
  have hS : va_S (gA G) s.heap H locs := by rw [hH, hlocs]; exact hS
  suffices hgo : W p l e ({ frames := 6, cells := 0, slots := 0, locals := 142 } : Room) s m (([.ref (gad G 32), .int a, .int d, .int t, .int w] : List Value).toArray) below meth cd H locs 0 0 (MQ below (va_Qi (fun r (c9 : Nat → va_E) => r = spEnough f n a d t w ∧ ∃ h8 s8 : Int32, c9 = va_up c 32 (.inr (9, [.ref (gad G 33), .ref (gad G 34), .ref (gad G 35), .int (nI n), .int (nI n1), .int z, .int (h8), .int (s8), .ref (gad G 36), .ref (gad G 37), .int (nI rn), .ref (gad G 38), .int (nI tn), .int fr, .int tto, .int tk, .int wo, .ref (gad G 39), .ref (gad G 40), .ref (gad G 41), .ref (gad G 42), .ref (gad G 43), .ref (gad G 44), .int (nI n2), .int (nI qn), .int iz, .int (bi im)]))) (fun c9 t => Hw G c9 t t.heap) (gA G)) ([.ref (gad G 32), .int a, .int d, .int t, .int w] : List Value).toArray s 0 0 (gA G)) (F0 m 0 ls []) by rw [hH, hlocs] at hgo; exact hgo
  refine lv_iload_n hx hb dX11_enough_0 rfl (lv_at hl 1 rfl) ?_
  refine lv_iload_n hx hb dX11_enough_1 rfl (lv_at hl 2 rfl) ?_
  refine lv_iload_n hx hb dX11_enough_2 rfl (lv_at hl 3 rfl) ?_
  refine cSe (rST (As := [_, _, _]) ⟨hx, hb, hml, hown, hts⟩ (k_X11_isAlong l ) (cv_X11_isAlong hts tw_1098 rfl rfl ⟨Nat.le_of_ble_eq_true rfl, Nat.le_of_ble_eq_true rfl⟩) rfl hl.1 rfl (by first | exact Nat.le_of_ble_eq_true rfl | decide) dX11_enough_3 ⟨Nat.zero_le _, Nat.zero_le _⟩) ?_
  refine zb_eq (tgt := 14) hx hb dX11_enough_6 (by decide) (fun c6 => ?_) (fun c6 => ?_)
  · refine lv_bipush (v := (-2)) hx hb dX11_enough_14 (by decide) ?_
    exact re_Q hx hb hr hlocks (rfl) hw hS dX11_enough_16 (⟨by rw [spEnough, c6]; rfl, ⟨hd, sd, (up_id o1).symm⟩⟩)
  · refine lv_iload hx hb dX11_enough_9 (lv_at hl 4 rfl) ?_
    refine lv_if_ge (tgt := 17) hx hb dX11_enough_11 (by decide) (fun c11 => ?_) (fun c11 => ?_)
    · have hal := c6
      simp only [Bool.and_eq_true] at hal
      obtain ⟨⟨ha1, ha2⟩, ha3⟩ := hal
      obtain ⟨p0, hp0, rfl⟩ := isP_t ha1
      have ht := isSh_t ha3
      have hsz := sz_le ht
      have hszm := szN_m ht
      refine lv_iconst (v := 0) hx hb dX11_enough_17 (by decide) ?_
      refine lv_istore (lv' := [(5, _), (0, _), (1, _), (2, _), (3, _), (4, _)]) hx hb dX11_enough_18 hl (by decide) rfl (fun ls hl => ?_)
      have L20 : ∀ (N : Nat) (i : Nat) (h7 s7 : Int32), (i + N = szN t) → (∀ q, q < i → (!decide (og f n p0 d t q < w)) = false) → ∀ (c0 : Nat → va_E) (H : Heap) (locs : List Loc), (c0 = va_up c 32 (.inr (9, [.ref (gad G 33), .ref (gad G 34), .ref (gad G 35), .int (nI n), .int (nI n1), .int z, .int (h7), .int (s7), .ref (gad G 36), .ref (gad G 37), .int (nI rn), .ref (gad G 38), .int (nI tn), .int fr, .int tto, .int tk, .int wo, .ref (gad G 39), .ref (gad G 40), .ref (gad G 41), .ref (gad G 42), .ref (gad G 43), .ref (gad G 44), .int (nI n2), .int (nI qn), .int iz, .int (bi im)]))) → Hw G c0 s H → va_S (gA G) s.heap H locs → ∀ ls : Array Slot, lv_has ls 6 [(5, .int (nI i)), (4, .int w), (3, .int t), (2, .int d), (1, .int (nI p0)), (0, .ref (gad G 32))] → W p l e ({ frames := 6, cells := 0, slots := 0, locals := 142 } : Room) s m (([.ref (gad G 32), .int (nI p0), .int d, .int t, .int w] : List Value).toArray) below meth cd H locs 0 0 (MQ below (va_Qi (fun r (c9 : Nat → va_E) => r = spEnough f n (nI p0) d t w ∧ ∃ h8 s8 : Int32, c9 = va_up c 32 (.inr (9, [.ref (gad G 33), .ref (gad G 34), .ref (gad G 35), .int (nI n), .int (nI n1), .int z, .int (h8), .int (s8), .ref (gad G 36), .ref (gad G 37), .int (nI rn), .ref (gad G 38), .int (nI tn), .int fr, .int tto, .int tk, .int wo, .ref (gad G 39), .ref (gad G 40), .ref (gad G 41), .ref (gad G 42), .ref (gad G 43), .ref (gad G 44), .int (nI n2), .int (nI qn), .int iz, .int (bi im)]))) (fun c9 t => Hw G c9 t t.heap) (gA G)) ([.ref (gad G 32), .int (nI p0), .int d, .int t, .int w] : List Value).toArray s 0 0 (gA G)) (F0 m 20 ls []) := by
        intro N
        induction N with
        | zero =>
          intro i  h7 s7  hN hA c0 H locs e0 hw hS ls hl
          have hin : i = szN t := by omega
          rw [hin] at hA
          refine lv_iload hx hb dX11_enough_20 (lv_at hl 0 rfl) ?_
          refine lv_iload_n hx hb dX11_enough_22 rfl (lv_at hl 2 rfl) ?_
          refine cSe (rST (As := [_]) ⟨hx, hb, hml, hown, hts⟩ (k_X11_sizeOf l ) (cv_X11_sizeOf hts tw_1040 rfl rfl ⟨Nat.le_of_ble_eq_true rfl, Nat.le_of_ble_eq_true rfl⟩) rfl hl.1 rfl (by first | exact Nat.le_of_ble_eq_true rfl | decide) dX11_enough_23 ⟨Nat.zero_le _, Nat.zero_le _⟩) ?_
          refine tp (y := nI (szN t)) hszm ?_
          refine lv_icmp_ge (tgt := 55) hx hb dX11_enough_26 (by decide) (fun c26 => ?_) (fun q => absurd (nI_le (by omega) (by omega)) q)
          refine lv_iconst (v := (-1)) hx hb dX11_enough_55 (by decide) ?_
          exact re_Q hx hb hr hlocks (rfl) hw hS dX11_enough_56 (⟨by rw [spEnough, show (isP (nI p0) && isDy d && isSh t) = true from c6, pN_nI hp0, fstU_n _ hA]; simp [Int32.not_lt.mpr c11], _, _, e0⟩)
        | succ N ih =>
          intro i  h7 s7  hN hA c0 H locs e0 hw hS ls hl
          have o1 : c0 32 = .inr (9, [.ref (gad G 33), .ref (gad G 34), .ref (gad G 35), .int (nI n), .int (nI n1), .int z, .int (h7), .int (s7), .ref (gad G 36), .ref (gad G 37), .int (nI rn), .ref (gad G 38), .int (nI tn), .int fr, .int tto, .int tk, .int wo, .ref (gad G 39), .ref (gad G 40), .ref (gad G 41), .ref (gad G 42), .ref (gad G 43), .ref (gad G 44), .int (nI n2), .int (nI qn), .int iz, .int (bi im)]) := by rw [e0]; exact vu_s
          have a1 : c0 33 = .inl (gI G, 132, .inl f) := by rw [e0]; exact vu_e (by decide) a1
          refine lv_iload hx hb dX11_enough_20 (lv_at hl 0 rfl) ?_
          refine lv_iload_n hx hb dX11_enough_22 rfl (lv_at hl 2 rfl) ?_
          refine cSe (rST (As := [_]) ⟨hx, hb, hml, hown, hts⟩ (k_X11_sizeOf l ) (cv_X11_sizeOf hts tw_1040 rfl rfl ⟨Nat.le_of_ble_eq_true rfl, Nat.le_of_ble_eq_true rfl⟩) rfl hl.1 rfl (by first | exact Nat.le_of_ble_eq_true rfl | decide) dX11_enough_23 ⟨Nat.zero_le _, Nat.zero_le _⟩) ?_
          refine tp (y := nI (szN t)) hszm ?_
          refine lv_icmp_ge (tgt := 55) hx hb dX11_enough_26 (by decide) (fun q => absurd q (nI_ge (by omega) (by omega))) (fun c26 => ?_)
          refine lv_aload_n hx hb dX11_enough_29 rfl (lv_at hl 5 rfl) ?_
          refine lv_iload_n hx hb dX11_enough_30 rfl (lv_at hl 4 rfl) ?_
          refine lv_iload_n hx hb dX11_enough_31 rfl (lv_at hl 2 rfl) ?_
          refine lv_iload hx hb dX11_enough_32 (lv_at hl 0 rfl) ?_
          refine cSe (rST (As := [_, _, _]) ⟨hx, hb, hml, hown, hts⟩ (k_X11_with l hp0 ht) (cv_X11_with hts tw_1101 rfl rfl ⟨Nat.le_of_ble_eq_true rfl, Nat.le_of_ble_eq_true rfl⟩) rfl hl.1 rfl (by first | exact Nat.le_of_ble_eq_true rfl | decide) dX11_enough_34 ⟨Nat.zero_le _, Nat.zero_le _⟩) ?_
          refine lv_iload_n hx hb dX11_enough_37 rfl (lv_at hl 3 rfl) ?_
          refine cQi (rV (As := [_, _]) ⟨hx, hb, hml, hown, hts⟩ hw (k_X11_isNow l o1 a1 hn (wth_lt hp0 ht (by omega)) hI) (cv_X11_isNow hts tw_1053 rfl rfl ⟨Nat.le_of_ble_eq_true rfl, Nat.le_of_ble_eq_true rfl⟩) (by decide) o1 rfl rfl hl.1 rfl (by first | exact Nat.le_of_ble_eq_true rfl | decide) dX11_enough_38 ⟨Nat.zero_le _, Nat.zero_le _⟩) hw hS (fun r38 w1 H locs hp38 hw hS => ?_)
          obtain ⟨er38, ec38⟩ := hp38
          subst er38
          have o1_1 : w1 32 = .inr (9, [.ref (gad G 33), .ref (gad G 34), .ref (gad G 35), .int (nI n), .int (nI n1), .int z, .int (hdM f n (wthN p0 t i) d), .int (stM f n (wthN p0 t i) d), .ref (gad G 36), .ref (gad G 37), .int (nI rn), .ref (gad G 38), .int (nI tn), .int fr, .int tto, .int tk, .int wo, .ref (gad G 39), .ref (gad G 40), .ref (gad G 41), .ref (gad G 42), .ref (gad G 43), .ref (gad G 44), .int (nI n2), .int (nI qn), .int iz, .int (bi im)]) := by rw [ec38]; exact vu_s
          have a1_1 : w1 33 = .inl (gI G, 132, .inl f) := by rw [ec38]; exact (vu_e (by decide) a1)
          refine lv_iload hx hb dX11_enough_41 (lv_at hl 1 rfl) ?_
          refine lv_icmp_lt (tgt := 49) hx hb dX11_enough_43 (by decide) (fun c43 => ?_) (fun c43 => ?_)
          · refine lv_iinc (v := nI (i + 1)) (lv' := [(5, _), (4, _), (3, _), (2, _), (1, _), (0, _)]) hx hb dX11_enough_49 hl (k := 0) rfl (inc1 i) (by decide) rfl (fun ls hl => ?_)
            refine lv_goto (tgt := 20) hx hb dX11_enough_52 (by decide) ?_
            exact ih (i + 1) _ _ (by omega) (lt_s hA (show (!decide (og f n p0 d t i < w)) = false by simp only [Bool.not_eq_false', decide_eq_true_eq]; exact c43)) _ H locs (by rw [ec38, e0, up_up]) hw hS ls (lv_sub hl [0, 1, 2, 3, 4, 5] rfl)
          · refine lv_iload hx hb dX11_enough_46 (lv_at hl 0 rfl) ?_
            exact re_Q hx hb hr hlocks (rfl) hw hS dX11_enough_48 (⟨by rw [spEnough, show (isP (nI p0) && isDy d && isSh t) = true from c6, pN_nI hp0, fstU_s (by omega) hA (show (!decide (og f n p0 d t i < w)) = true by simp only [Bool.not_eq_true', decide_eq_false_iff_not]; exact c43) (szN t) (by omega)]; simp [Int32.not_lt.mpr c11], _, _, by rw [ec38, e0, up_up]⟩)
      exact L20 (szN t) 0 hd sd (by omega) lt_0 _ H locs (up_id o1).symm hw hS ls (lv_sub hl [0, 5, 4, 3, 2, 1] rfl)
    · refine lv_bipush (v := (-2)) hx hb dX11_enough_14 (by decide) ?_
      exact re_Q hx hb hr hlocks (rfl) hw hS dX11_enough_16 (⟨by rw [spEnough, c6]; simp [Int32.not_le.mp c11], ⟨hd, sd, (up_id o1).symm⟩⟩)
set_option maxHeartbeats 4000000 in
set_option maxRecDepth 100000 in
theorem k_X11_draw (l : Launch) {G : GT} {c : Nat → va_E} {n n1 rn tn n2 qn : Nat} {z hd sd fr tto tk wo iz : Int32} {im : Bool} (o1 : c 32 = .inr (9, [.ref (gad G 33), .ref (gad G 34), .ref (gad G 35), .int (nI n), .int (nI n1), .int z, .int hd, .int sd, .ref (gad G 36), .ref (gad G 37), .int (nI rn), .ref (gad G 38), .int (nI tn), .int fr, .int tto, .int tk, .int wo, .ref (gad G 39), .ref (gad G 40), .ref (gad G 41), .ref (gad G 42), .ref (gad G 43), .ref (gad G 44), .int (nI n2), .int (nI qn), .int iz, .int (bi im)]))   : Met l yX11_draw (wv yX11_draw cX11_draw 1 (some .int)) ({ frames := 0, cells := 0, slots := 0, locals := 0 } : Room) (va_Pc [.ref (gad G 32)] (fun U => Hw G c U U.heap)) (va_Qi (fun r (c9 : Nat → va_E) => r = nI (zq (zn z)) ∧ c9 = va_up c 32 (.inr (9, [.ref (gad G 33), .ref (gad G 34), .ref (gad G 35), .int (nI n), .int (nI n1), .int (zn z), .int hd, .int sd, .ref (gad G 36), .ref (gad G 37), .int (nI rn), .ref (gad G 38), .int (nI tn), .int fr, .int tto, .int tk, .int wo, .ref (gad G 39), .ref (gad G 40), .ref (gad G 41), .ref (gad G 42), .ref (gad G 43), .ref (gad G 44), .int (nI n2), .int (nI qn), .int iz, .int (bi im)]))) (fun c9 t => Hw G c9 t t.heap) (gA G)) 0 0 (gA G) := by
  refine en (by decide +kernel) (by first | exact Nat.le_of_ble_eq_true rfl | decide) ?_
  intro p e s m below meth cd ls hx hb hr hml hown hts hlocks hnm hw hl
  have hl : lv_has ls 1 [(0, .ref (gad G 32))] := hl
  have hX : Sw G s s.heap := hw.2.2.2.2.2
  have hS : va_S (gA G) s.heap s.heap [] := va_S.rf
  obtain ⟨H, hH⟩ : ∃ wz9, wz9 = s.heap := ⟨_, rfl⟩
  obtain ⟨locs, hlocs⟩ : ∃ wz9 : List Loc, wz9 = [] := ⟨_, rfl⟩
  have hw : Hw G c s H := by rw [hH]; exact hw
  have hS : va_S (gA G) s.heap H locs := by rw [hH, hlocs]; exact hS
  suffices hgo : W p l e ({ frames := 0, cells := 0, slots := 0, locals := 0 } : Room) s m (([.ref (gad G 32)] : List Value).toArray) below meth cd H locs 0 0 (MQ below (va_Qi (fun r (c9 : Nat → va_E) => r = nI (zq (zn z)) ∧ c9 = va_up c 32 (.inr (9, [.ref (gad G 33), .ref (gad G 34), .ref (gad G 35), .int (nI n), .int (nI n1), .int (zn z), .int hd, .int sd, .ref (gad G 36), .ref (gad G 37), .int (nI rn), .ref (gad G 38), .int (nI tn), .int fr, .int tto, .int tk, .int wo, .ref (gad G 39), .ref (gad G 40), .ref (gad G 41), .ref (gad G 42), .ref (gad G 43), .ref (gad G 44), .int (nI n2), .int (nI qn), .int iz, .int (bi im)]))) (fun c9 t => Hw G c9 t t.heap) (gA G)) ([.ref (gad G 32)] : List Value).toArray s 0 0 (gA G)) (F0 m 0 ls []) by rw [hH, hlocs] at hgo; exact hgo
  refine lv_aload_n hx hb dX11_draw_0 rfl (lv_at hl 0 rfl) ?_
  refine lv_aload_n hx hb dX11_draw_1 rfl (lv_at hl 0 rfl) ?_
  refine w_get (C := RX11) (T := TX11) (N := 27) 5 hx hb hts inX11 hown hw (by decide) o1 rfl (by decide) (hts _ tw_890) rfl dX11_draw_2 ?_
  refine lv_ldc (v := 1103515245) hx hb hown (hts _ tw_1143) dX11_draw_5 ?_
  refine lv_imul hx hb dX11_draw_7 ?_
  refine lv_sipush (v := 12345) hx hb dX11_draw_8 (by decide) ?_
  refine lv_iadd hx hb dX11_draw_11 ?_
  refine w_put (C := RX11) (T := TX11) (N := 27) (v := .int (zn z)) 5 tyX11 hx hb hts inX11 tyX11_ok nmX11 hown hw hX hS (by decide) o1 rfl (by decide) (hts _ tw_890) rfl rfl (rfl) (rfl) (Nat.le_of_ble_eq_true rfl) dX11_draw_12 (fun H locs hw hS => ?_)
  obtain ⟨w2, ew2⟩ : ∃ wz9 : Nat → va_E, wz9 = va_up c 32 (.inr (9, [.ref (gad G 33), .ref (gad G 34), .ref (gad G 35), .int (nI n), .int (nI n1), .int (zn z), .int hd, .int sd, .ref (gad G 36), .ref (gad G 37), .int (nI rn), .ref (gad G 38), .int (nI tn), .int fr, .int tto, .int tk, .int wo, .ref (gad G 39), .ref (gad G 40), .ref (gad G 41), .ref (gad G 42), .ref (gad G 43), .ref (gad G 44), .int (nI n2), .int (nI qn), .int iz, .int (bi im)])) := ⟨_, rfl⟩
  have hw : Hw G w2 s H := by rw [ew2]; exact hw
  have o1_2 : w2 32 = .inr (9, [.ref (gad G 33), .ref (gad G 34), .ref (gad G 35), .int (nI n), .int (nI n1), .int (zn z), .int hd, .int sd, .ref (gad G 36), .ref (gad G 37), .int (nI rn), .ref (gad G 38), .int (nI tn), .int fr, .int tto, .int tk, .int wo, .ref (gad G 39), .ref (gad G 40), .ref (gad G 41), .ref (gad G 42), .ref (gad G 43), .ref (gad G 44), .int (nI n2), .int (nI qn), .int iz, .int (bi im)]) := by rw [ew2]; exact vu_s
  refine lv_aload_n hx hb dX11_draw_15 rfl (lv_at hl 0 rfl) ?_
  refine w_get (C := RX11) (T := TX11) (N := 27) 5 hx hb hts inX11 hown hw (by decide) o1_2 rfl (by decide) (hts _ tw_890) rfl dX11_draw_16 ?_
  refine lv_bipush (v := 16) hx hb dX11_draw_19 (by decide) ?_
  refine lv_iushr hx hb dX11_draw_21 rfl ?_
  rw [ush16]
  exact re_Q hx hb hr hlocks (rfl) hw hS dX11_draw_22 (⟨rfl, ew2⟩)
set_option maxHeartbeats 4000000 in
set_option maxRecDepth 100000 in
theorem k_X11_drawnOne (l : Launch) {G : GT} {c : Nat → va_E} {n n1 rn tn n2 qn : Nat} {z hd sd fr tto tk wo iz : Int32} {im : Bool} (o1 : c 32 = .inr (9, [.ref (gad G 33), .ref (gad G 34), .ref (gad G 35), .int (nI n), .int (nI n1), .int z, .int hd, .int sd, .ref (gad G 36), .ref (gad G 37), .int (nI rn), .ref (gad G 38), .int (nI tn), .int fr, .int tto, .int tk, .int wo, .ref (gad G 39), .ref (gad G 40), .ref (gad G 41), .ref (gad G 42), .ref (gad G 43), .ref (gad G 44), .int (nI n2), .int (nI qn), .int iz, .int (bi im)]))   : Met l yX11_drawnOne (wv yX11_drawnOne cX11_drawnOne 3 (some .int)) ({ frames := 1, cells := 0, slots := 0, locals := 20 } : Room) (va_Pc [.ref (gad G 32)] (fun U => Hw G c U U.heap)) (va_Qi (fun r (c9 : Nat → va_E) => r = nI (zp z) ∧ c9 = va_up c 32 (.inr (9, [.ref (gad G 33), .ref (gad G 34), .ref (gad G 35), .int (nI n), .int (nI n1), .int (zn5 z), .int hd, .int sd, .ref (gad G 36), .ref (gad G 37), .int (nI rn), .ref (gad G 38), .int (nI tn), .int fr, .int tto, .int tk, .int wo, .ref (gad G 39), .ref (gad G 40), .ref (gad G 41), .ref (gad G 42), .ref (gad G 43), .ref (gad G 44), .int (nI n2), .int (nI qn), .int iz, .int (bi im)]))) (fun c9 t => Hw G c9 t t.heap) (gA G)) 0 0 (gA G) := by
  refine en (by decide +kernel) (by first | exact Nat.le_of_ble_eq_true rfl | decide) ?_
  intro p e s m below meth cd ls hx hb hr hml hown hts hlocks hnm hw hl
  have hl : lv_has ls 3 [(0, .ref (gad G 32))] := hl
  have hX : Sw G s s.heap := hw.2.2.2.2.2
  have hS : va_S (gA G) s.heap s.heap [] := va_S.rf
  obtain ⟨H, hH⟩ : ∃ wz9, wz9 = s.heap := ⟨_, rfl⟩
  obtain ⟨locs, hlocs⟩ : ∃ wz9 : List Loc, wz9 = [] := ⟨_, rfl⟩
  have hw : Hw G c s H := by rw [hH]; exact hw
  have hS : va_S (gA G) s.heap H locs := by rw [hH, hlocs]; exact hS
  suffices hgo : W p l e ({ frames := 1, cells := 0, slots := 0, locals := 20 } : Room) s m (([.ref (gad G 32)] : List Value).toArray) below meth cd H locs 0 0 (MQ below (va_Qi (fun r (c9 : Nat → va_E) => r = nI (zp z) ∧ c9 = va_up c 32 (.inr (9, [.ref (gad G 33), .ref (gad G 34), .ref (gad G 35), .int (nI n), .int (nI n1), .int (zn5 z), .int hd, .int sd, .ref (gad G 36), .ref (gad G 37), .int (nI rn), .ref (gad G 38), .int (nI tn), .int fr, .int tto, .int tk, .int wo, .ref (gad G 39), .ref (gad G 40), .ref (gad G 41), .ref (gad G 42), .ref (gad G 43), .ref (gad G 44), .int (nI n2), .int (nI qn), .int iz, .int (bi im)]))) (fun c9 t => Hw G c9 t t.heap) (gA G)) ([.ref (gad G 32)] : List Value).toArray s 0 0 (gA G)) (F0 m 0 ls []) by rw [hH, hlocs] at hgo; exact hgo
  refine lv_iconst (v := 0) hx hb dX11_drawnOne_0 (by decide) ?_
  refine lv_istore_n (lv' := [(1, _), (0, _)]) hx hb dX11_drawnOne_1 rfl hl (by decide) rfl (fun ls hl => ?_)
  refine lv_iconst (v := 0) hx hb dX11_drawnOne_2 (by decide) ?_
  refine lv_istore_n (lv' := [(2, _), (1, _), (0, _)]) hx hb dX11_drawnOne_3 rfl hl (by decide) rfl (fun ls hl => ?_)
  have L4 : ∀ (N : Nat) (i : Nat), (i + N = 5) → ∀ (c0 : Nat → va_E) (H : Heap) (locs : List Loc), (c0 = va_up c 32 (.inr (9, [.ref (gad G 33), .ref (gad G 34), .ref (gad G 35), .int (nI n), .int (nI n1), .int ((zps z i).2), .int hd, .int sd, .ref (gad G 36), .ref (gad G 37), .int (nI rn), .ref (gad G 38), .int (nI tn), .int fr, .int tto, .int tk, .int wo, .ref (gad G 39), .ref (gad G 40), .ref (gad G 41), .ref (gad G 42), .ref (gad G 43), .ref (gad G 44), .int (nI n2), .int (nI qn), .int iz, .int (bi im)]))) → Hw G c0 s H → va_S (gA G) s.heap H locs → ∀ ls : Array Slot, lv_has ls 3 [(2, .int (nI i)), (1, .int (nI (zps z i).1)), (0, .ref (gad G 32))] → W p l e ({ frames := 1, cells := 0, slots := 0, locals := 20 } : Room) s m (([.ref (gad G 32)] : List Value).toArray) below meth cd H locs 0 0 (MQ below (va_Qi (fun r (c9 : Nat → va_E) => r = nI (zp z) ∧ c9 = va_up c 32 (.inr (9, [.ref (gad G 33), .ref (gad G 34), .ref (gad G 35), .int (nI n), .int (nI n1), .int (zn5 z), .int hd, .int sd, .ref (gad G 36), .ref (gad G 37), .int (nI rn), .ref (gad G 38), .int (nI tn), .int fr, .int tto, .int tk, .int wo, .ref (gad G 39), .ref (gad G 40), .ref (gad G 41), .ref (gad G 42), .ref (gad G 43), .ref (gad G 44), .int (nI n2), .int (nI qn), .int iz, .int (bi im)]))) (fun c9 t => Hw G c9 t t.heap) (gA G)) ([.ref (gad G 32)] : List Value).toArray s 0 0 (gA G)) (F0 m 4 ls []) := by
    intro N
    induction N with
    | zero =>
      intro i  hN c0 H locs e0 hw hS ls hl
      obtain rfl : i = 5 := by omega
      refine lv_iload_n hx hb dX11_drawnOne_4 rfl (lv_at hl 0 rfl) ?_
      refine lv_iconst (v := 5) hx hb dX11_drawnOne_5 (by decide) ?_
      refine lv_icmp_ge (tgt := 32) hx hb dX11_drawnOne_6 (by decide) (fun c6 => ?_) (fun q => absurd (by decide) q)
      refine lv_iload_n hx hb dX11_drawnOne_32 rfl (lv_at hl 1 rfl) ?_
      exact re_Q hx hb hr hlocks (rfl) hw hS dX11_drawnOne_33 (⟨by rw [zps_5], by rw [e0, zps_5]⟩)
    | succ N ih =>
      intro i  hN c0 H locs e0 hw hS ls hl
      have o1 : c0 32 = .inr (9, [.ref (gad G 33), .ref (gad G 34), .ref (gad G 35), .int (nI n), .int (nI n1), .int ((zps z i).2), .int hd, .int sd, .ref (gad G 36), .ref (gad G 37), .int (nI rn), .ref (gad G 38), .int (nI tn), .int fr, .int tto, .int tk, .int wo, .ref (gad G 39), .ref (gad G 40), .ref (gad G 41), .ref (gad G 42), .ref (gad G 43), .ref (gad G 44), .int (nI n2), .int (nI qn), .int iz, .int (bi im)]) := by rw [e0]; exact vu_s
      refine lv_iload_n hx hb dX11_drawnOne_4 rfl (lv_at hl 0 rfl) ?_
      refine lv_iconst (v := 5) hx hb dX11_drawnOne_5 (by decide) ?_
      refine lv_icmp_ge (tgt := 32) hx hb dX11_drawnOne_6 (by decide) (fun q => absurd q (nI_ge (b := 5) (by omega) (by omega))) (fun c6 => ?_)
      refine lv_iload_n hx hb dX11_drawnOne_9 rfl (lv_at hl 1 rfl) ?_
      refine lv_aload_n hx hb dX11_drawnOne_10 rfl (lv_at hl 2 rfl) ?_
      refine cQi (rV (As := []) ⟨hx, hb, hml, hown, hts⟩ hw (k_X11_draw l o1) (cv_X11_draw hts tw_1139 rfl rfl ⟨Nat.le_of_ble_eq_true rfl, Nat.le_of_ble_eq_true rfl⟩) (by decide) o1 rfl rfl hl.1 rfl (by first | exact Nat.le_of_ble_eq_true rfl | decide) dX11_drawnOne_11 ⟨Nat.zero_le _, Nat.zero_le _⟩) hw hS (fun r11 w1 H locs hp11 hw hS => ?_)
      obtain ⟨er11, ec11⟩ := hp11
      subst er11
      have o1_1 : w1 32 = .inr (9, [.ref (gad G 33), .ref (gad G 34), .ref (gad G 35), .int (nI n), .int (nI n1), .int (zn (zps z i).2), .int hd, .int sd, .ref (gad G 36), .ref (gad G 37), .int (nI rn), .ref (gad G 38), .int (nI tn), .int fr, .int tto, .int tk, .int wo, .ref (gad G 39), .ref (gad G 40), .ref (gad G 41), .ref (gad G 42), .ref (gad G 43), .ref (gad G 44), .int (nI n2), .int (nI qn), .int iz, .int (bi im)]) := by rw [ec11]; exact vu_s
      refine lv_iload_n hx hb dX11_drawnOne_14 rfl (lv_at hl 0 rfl) ?_
      refine cSe (rST (As := [_]) ⟨hx, hb, hml, hown, hts⟩ (k_X11_sizeOf l ) (cv_X11_sizeOf hts tw_1040 rfl rfl ⟨Nat.le_of_ble_eq_true rfl, Nat.le_of_ble_eq_true rfl⟩) rfl hl.1 rfl (by first | exact Nat.le_of_ble_eq_true rfl | decide) dX11_drawnOne_15 ⟨Nat.zero_le _, Nat.zero_le _⟩) ?_
      obtain ⟨sz1, sz2, sz3⟩ := szN_5 i (by omega)
      refine tp (y := nI (szN (nI i))) sz1 ?_
      refine lv_irem hx hb dX11_drawnOne_18 (nI_ne0 sz2 (by omega)) ?_
      refine tp (y := nI (zq (zn (zps z i).2) % szN (nI i))) (pk_rem (by have := zq_lt (zn (zps z i).2); omega) sz2 (by omega)) ?_
      refine lv_iload_n hx hb dX11_drawnOne_19 rfl (lv_at hl 0 rfl) ?_
      refine cSe (rST (As := [_]) ⟨hx, hb, hml, hown, hts⟩ (k_X11_by l ) (cv_X11_by hts tw_1037 rfl rfl ⟨Nat.le_of_ble_eq_true rfl, Nat.le_of_ble_eq_true rfl⟩) rfl hl.1 rfl (by first | exact Nat.le_of_ble_eq_true rfl | decide) dX11_drawnOne_20 ⟨Nat.zero_le _, Nat.zero_le _⟩) ?_
      refine lv_imul hx hb dX11_drawnOne_23 ?_
      refine tp (y := nI (zq (zn (zps z i).2) % szN (nI i) * wtN (nI i))) (pk_mul _ _) ?_
      refine lv_iadd hx hb dX11_drawnOne_24 ?_
      refine tp (y := nI (zps z (i + 1)).1) (nI_add _ _) ?_
      refine lv_istore_n (lv' := [(1, _), (2, _), (0, _)]) hx hb dX11_drawnOne_25 rfl hl (by decide) rfl (fun ls hl => ?_)
      refine lv_iinc (v := nI (i + 1)) (lv' := [(2, _), (1, _), (0, _)]) hx hb dX11_drawnOne_26 hl (k := 1) rfl (inc1 i) (by decide) rfl (fun ls hl => ?_)
      refine lv_goto (tgt := 4) hx hb dX11_drawnOne_29 (by decide) ?_
      exact ih (i + 1) (by omega) _ H locs (by rw [ec11, e0, up_up]; rfl) hw hS ls (lv_sub hl [0, 1, 2] rfl)
  exact L4 5 0 (by omega) _ H locs (up_id o1).symm hw hS ls (lv_sub hl [0, 1, 2] rfl)
set_option maxHeartbeats 4000000 in
set_option maxRecDepth 100000 in
theorem k_X11_until (l : Launch) {G : GT} {c : Nat → va_E} {n n1 rn tn n2 qn : Nat} {z hd sd fr tto tk wo iz : Int32} {im : Bool} (o1 : c 32 = .inr (9, [.ref (gad G 33), .ref (gad G 34), .ref (gad G 35), .int (nI n), .int (nI n1), .int z, .int hd, .int sd, .ref (gad G 36), .ref (gad G 37), .int (nI rn), .ref (gad G 38), .int (nI tn), .int fr, .int tto, .int tk, .int wo, .ref (gad G 39), .ref (gad G 40), .ref (gad G 41), .ref (gad G 42), .ref (gad G 43), .ref (gad G 44), .int (nI n2), .int (nI qn), .int iz, .int (bi im)])) {f : Nat → Int32} (a1 : c 33 = .inl (gI G, 132, .inl f)) (hn : n ≤ 12) {a d : Int32} (hI : cI f n) : Met l yX11_until (wv yX11_until cX11_until 5 (some .int)) ({ frames := 6, cells := 0, slots := 0, locals := 142 } : Room) (va_Pc [.ref (gad G 32), .int a, .int d] (fun U => Hw G c U U.heap)) (va_Qi (fun r (c9 : Nat → va_E) => r = (if isP a && isDy d then untM f n (pN a) (ocm f n (pN a) d) (999 - d.toNatClampNeg) (d.toNatClampNeg + 1) else -2) ∧ ∃ h8 s8 : Int32, c9 = va_up c 32 (.inr (9, [.ref (gad G 33), .ref (gad G 34), .ref (gad G 35), .int (nI n), .int (nI n1), .int z, .int (h8), .int (s8), .ref (gad G 36), .ref (gad G 37), .int (nI rn), .ref (gad G 38), .int (nI tn), .int fr, .int tto, .int tk, .int wo, .ref (gad G 39), .ref (gad G 40), .ref (gad G 41), .ref (gad G 42), .ref (gad G 43), .ref (gad G 44), .int (nI n2), .int (nI qn), .int iz, .int (bi im)]))) (fun c9 t => Hw G c9 t t.heap) (gA G)) 0 0 (gA G) := by
  refine en (by decide +kernel) (by first | exact Nat.le_of_ble_eq_true rfl | decide) ?_
  intro p e s m below meth cd ls hx hb hr hml hown hts hlocks hnm hw hl
  have hl : lv_has ls 5 [(0, .ref (gad G 32)), (1, .int a), (2, .int d)] := hl
  have hX : Sw G s s.heap := hw.2.2.2.2.2
  have hS : va_S (gA G) s.heap s.heap [] := va_S.rf
  obtain ⟨H, hH⟩ : ∃ wz9, wz9 = s.heap := ⟨_, rfl⟩
  obtain ⟨locs, hlocs⟩ : ∃ wz9 : List Loc, wz9 = [] := ⟨_, rfl⟩
  have hw : Hw G c s H := by rw [hH]; exact hw
  have hS : va_S (gA G) s.heap H locs := by rw [hH, hlocs]; exact hS
  suffices hgo : W p l e ({ frames := 6, cells := 0, slots := 0, locals := 142 } : Room) s m (([.ref (gad G 32), .int a, .int d] : List Value).toArray) below meth cd H locs 0 0 (MQ below (va_Qi (fun r (c9 : Nat → va_E) => r = (if isP a && isDy d then untM f n (pN a) (ocm f n (pN a) d) (999 - d.toNatClampNeg) (d.toNatClampNeg + 1) else -2) ∧ ∃ h8 s8 : Int32, c9 = va_up c 32 (.inr (9, [.ref (gad G 33), .ref (gad G 34), .ref (gad G 35), .int (nI n), .int (nI n1), .int z, .int (h8), .int (s8), .ref (gad G 36), .ref (gad G 37), .int (nI rn), .ref (gad G 38), .int (nI tn), .int fr, .int tto, .int tk, .int wo, .ref (gad G 39), .ref (gad G 40), .ref (gad G 41), .ref (gad G 42), .ref (gad G 43), .ref (gad G 44), .int (nI n2), .int (nI qn), .int iz, .int (bi im)]))) (fun c9 t => Hw G c9 t t.heap) (gA G)) ([.ref (gad G 32), .int a, .int d] : List Value).toArray s 0 0 (gA G)) (F0 m 0 ls []) by rw [hH, hlocs] at hgo; exact hgo
  refine lv_iload_n hx hb dX11_until_0 rfl (lv_at hl 1 rfl) ?_
  refine lv_iload_n hx hb dX11_until_1 rfl (lv_at hl 2 rfl) ?_
  refine cSe (rST (As := [_, _]) ⟨hx, hb, hml, hown, hts⟩ (k_X11_isAsked l ) (cv_X11_isAsked hts tw_1047 rfl rfl ⟨Nat.le_of_ble_eq_true rfl, Nat.le_of_ble_eq_true rfl⟩) rfl hl.1 rfl (by first | exact Nat.le_of_ble_eq_true rfl | decide) dX11_until_2 ⟨Nat.zero_le _, Nat.zero_le _⟩) ?_
  refine zb_ne (tgt := 11) hx hb dX11_until_5 (by decide) (fun c5 => ?_) (fun c5 => ?_)
  · obtain ⟨p0, hp0, rfl⟩ := isP_t (Bool.and_eq_true_iff.mp c5).1
    obtain ⟨d0, hd0, rfl⟩ := isDy_t (Bool.and_eq_true_iff.mp c5).2
    have hd9 : (nI d0).toNatClampNeg = d0 := nI_clamp (by omega)
    refine lv_aload_n hx hb dX11_until_11 rfl (lv_at hl 0 rfl) ?_
    refine lv_iload_n hx hb dX11_until_12 rfl (lv_at hl 1 rfl) ?_
    refine lv_iload_n hx hb dX11_until_13 rfl (lv_at hl 2 rfl) ?_
    refine cQi (rV (As := [_, _]) ⟨hx, hb, hml, hown, hts⟩ hw (k_X11_isNow l o1 a1 hn hp0 hI) (cv_X11_isNow hts tw_1053 rfl rfl ⟨Nat.le_of_ble_eq_true rfl, Nat.le_of_ble_eq_true rfl⟩) (by decide) o1 rfl rfl hl.1 rfl (by first | exact Nat.le_of_ble_eq_true rfl | decide) dX11_until_14 ⟨Nat.zero_le _, Nat.zero_le _⟩) hw hS (fun r14 w1 H locs hp14 hw hS => ?_)
    obtain ⟨er14, ec14⟩ := hp14
    subst er14
    have o1_1 : w1 32 = .inr (9, [.ref (gad G 33), .ref (gad G 34), .ref (gad G 35), .int (nI n), .int (nI n1), .int z, .int (hdM f n p0 (nI d0)), .int (stM f n p0 (nI d0)), .ref (gad G 36), .ref (gad G 37), .int (nI rn), .ref (gad G 38), .int (nI tn), .int fr, .int tto, .int tk, .int wo, .ref (gad G 39), .ref (gad G 40), .ref (gad G 41), .ref (gad G 42), .ref (gad G 43), .ref (gad G 44), .int (nI n2), .int (nI qn), .int iz, .int (bi im)]) := by rw [ec14]; exact vu_s
    have a1_1 : w1 33 = .inl (gI G, 132, .inl f) := by rw [ec14]; exact (vu_e (by decide) a1)
    refine lv_istore_n (lv' := [(3, _), (0, _), (1, _), (2, _)]) hx hb dX11_until_17 rfl hl (by decide) rfl (fun ls hl => ?_)
    refine lv_iload_n hx hb dX11_until_18 rfl (lv_at hl 3 rfl) ?_
    refine lv_iconst (v := 1) hx hb dX11_until_19 (by decide) ?_
    refine lv_iadd hx hb dX11_until_20 ?_
    refine tp (y := nI (d0 + 1)) (nI_1 d0) ?_
    refine lv_istore (lv' := [(4, _), (3, _), (0, _), (1, _), (2, _)]) hx hb dX11_until_21 hl (by decide) rfl (fun ls hl => ?_)
    have L23 : ∀ (N : Nat) (i : Nat) (h7 s7 : Int32), (i + N = 1000) → (untM f n p0 (ocm f n p0 (nI d0)) (999 - d0) (d0 + 1) = untM f n p0 (ocm f n p0 (nI d0)) N i) → ∀ (c0 : Nat → va_E) (H : Heap) (locs : List Loc), (c0 = va_up c 32 (.inr (9, [.ref (gad G 33), .ref (gad G 34), .ref (gad G 35), .int (nI n), .int (nI n1), .int z, .int (h7), .int (s7), .ref (gad G 36), .ref (gad G 37), .int (nI rn), .ref (gad G 38), .int (nI tn), .int fr, .int tto, .int tk, .int wo, .ref (gad G 39), .ref (gad G 40), .ref (gad G 41), .ref (gad G 42), .ref (gad G 43), .ref (gad G 44), .int (nI n2), .int (nI qn), .int iz, .int (bi im)]))) → Hw G c0 s H → va_S (gA G) s.heap H locs → ∀ ls : Array Slot, lv_has ls 5 [(4, .int (nI i)), (3, .int (ocm f n p0 (nI d0))), (2, .int (nI d0)), (1, .int (nI p0)), (0, .ref (gad G 32))] → W p l e ({ frames := 6, cells := 0, slots := 0, locals := 142 } : Room) s m (([.ref (gad G 32), .int (nI p0), .int (nI d0)] : List Value).toArray) below meth cd H locs 0 0 (MQ below (va_Qi (fun r (c9 : Nat → va_E) => r = (if isP (nI p0) && isDy (nI d0) then untM f n (pN (nI p0)) (ocm f n (pN (nI p0)) (nI d0)) (999 - (nI d0).toNatClampNeg) ((nI d0).toNatClampNeg + 1) else -2) ∧ ∃ h8 s8 : Int32, c9 = va_up c 32 (.inr (9, [.ref (gad G 33), .ref (gad G 34), .ref (gad G 35), .int (nI n), .int (nI n1), .int z, .int (h8), .int (s8), .ref (gad G 36), .ref (gad G 37), .int (nI rn), .ref (gad G 38), .int (nI tn), .int fr, .int tto, .int tk, .int wo, .ref (gad G 39), .ref (gad G 40), .ref (gad G 41), .ref (gad G 42), .ref (gad G 43), .ref (gad G 44), .int (nI n2), .int (nI qn), .int iz, .int (bi im)]))) (fun c9 t => Hw G c9 t t.heap) (gA G)) ([.ref (gad G 32), .int (nI p0), .int (nI d0)] : List Value).toArray s 0 0 (gA G)) (F0 m 23 ls []) := by
      intro N
      induction N with
      | zero =>
        intro i  h7 s7  hN hA c0 H locs e0 hw hS ls hl
        obtain rfl : i = 1000 := by omega
        refine lv_iload hx hb dX11_until_23 (lv_at hl 0 rfl) ?_
        refine lv_sipush (v := 999) hx hb dX11_until_25 (by decide) ?_
        refine lv_icmp_gt (tgt := 51) hx hb dX11_until_28 (by decide) (fun c28 => ?_) (fun q => absurd (by decide) q)
        refine lv_iconst (v := (-1)) hx hb dX11_until_51 (by decide) ?_
        exact re_Q hx hb hr hlocks (rfl) hw hS dX11_until_52 (⟨by rw [show (isP (nI p0) && isDy (nI d0)) = true from c5, pN_nI hp0, hd9, hA, untM]; rfl, _, _, e0⟩)
      | succ N ih =>
        intro i  h7 s7  hN hA c0 H locs e0 hw hS ls hl
        have o1 : c0 32 = .inr (9, [.ref (gad G 33), .ref (gad G 34), .ref (gad G 35), .int (nI n), .int (nI n1), .int z, .int (h7), .int (s7), .ref (gad G 36), .ref (gad G 37), .int (nI rn), .ref (gad G 38), .int (nI tn), .int fr, .int tto, .int tk, .int wo, .ref (gad G 39), .ref (gad G 40), .ref (gad G 41), .ref (gad G 42), .ref (gad G 43), .ref (gad G 44), .int (nI n2), .int (nI qn), .int iz, .int (bi im)]) := by rw [e0]; exact vu_s
        have a1 : c0 33 = .inl (gI G, 132, .inl f) := by rw [e0]; exact vu_e (by decide) a1
        refine lv_iload hx hb dX11_until_23 (lv_at hl 0 rfl) ?_
        refine lv_sipush (v := 999) hx hb dX11_until_25 (by decide) ?_
        refine lv_icmp_gt (tgt := 51) hx hb dX11_until_28 (by decide) (fun q => absurd q (fun q => absurd ((nI_ltI (a := 999) (by omega) (by omega)).mp q) (by omega))) (fun c28 => ?_)
        refine lv_aload_n hx hb dX11_until_31 rfl (lv_at hl 4 rfl) ?_
        refine lv_iload_n hx hb dX11_until_32 rfl (lv_at hl 3 rfl) ?_
        refine lv_iload hx hb dX11_until_33 (lv_at hl 0 rfl) ?_
        refine cQi (rV (As := [_, _]) ⟨hx, hb, hml, hown, hts⟩ hw (k_X11_isNow l o1 a1 hn hp0 hI) (cv_X11_isNow hts tw_1053 rfl rfl ⟨Nat.le_of_ble_eq_true rfl, Nat.le_of_ble_eq_true rfl⟩) (by decide) o1 rfl rfl hl.1 rfl (by first | exact Nat.le_of_ble_eq_true rfl | decide) dX11_until_35 ⟨Nat.zero_le _, Nat.zero_le _⟩) hw hS (fun r35 w2 H locs hp35 hw hS => ?_)
        obtain ⟨er35, ec35⟩ := hp35
        subst er35
        have o1_2 : w2 32 = .inr (9, [.ref (gad G 33), .ref (gad G 34), .ref (gad G 35), .int (nI n), .int (nI n1), .int z, .int (hdM f n p0 (nI i)), .int (stM f n p0 (nI i)), .ref (gad G 36), .ref (gad G 37), .int (nI rn), .ref (gad G 38), .int (nI tn), .int fr, .int tto, .int tk, .int wo, .ref (gad G 39), .ref (gad G 40), .ref (gad G 41), .ref (gad G 42), .ref (gad G 43), .ref (gad G 44), .int (nI n2), .int (nI qn), .int iz, .int (bi im)]) := by rw [ec35]; exact vu_s
        have a1_2 : w2 33 = .inl (gI G, 132, .inl f) := by rw [ec35]; exact (vu_e (by decide) a1)
        refine lv_iload_n hx hb dX11_until_38 rfl (lv_at hl 1 rfl) ?_
        refine lv_icmp_eq (tgt := 45) hx hb dX11_until_39 (by decide) (fun c39 => ?_) (fun c39 => ?_)
        · refine lv_iinc (v := nI (i + 1)) (lv' := [(4, _), (3, _), (2, _), (1, _), (0, _)]) hx hb dX11_until_45 hl (k := 0) rfl (inc1 i) (by decide) rfl (fun ls hl => ?_)
          refine lv_goto (tgt := 23) hx hb dX11_until_48 (by decide) ?_
          exact ih (i + 1) _ _ (by omega) (by rw [hA, untM, if_pos c39]) _ H locs (by rw [ec35, e0, up_up]) hw hS ls (lv_sub hl [0, 1, 2, 3, 4] rfl)
        · refine lv_iload hx hb dX11_until_42 (lv_at hl 0 rfl) ?_
          exact re_Q hx hb hr hlocks (rfl) hw hS dX11_until_44 (⟨by rw [show (isP (nI p0) && isDy (nI d0)) = true from c5, pN_nI hp0, hd9, hA, untM, if_neg c39]; rfl, _, _, by rw [ec35, e0, up_up]⟩)
    exact L23 (999 - d0) (d0 + 1) _ _ (by omega) rfl _ H locs ec14 hw hS ls (lv_sub hl [0, 1, 4, 3, 2] rfl)
  · refine lv_bipush (v := (-2)) hx hb dX11_until_8 (by decide) ?_
    exact re_Q hx hb hr hlocks (rfl) hw hS dX11_until_10 (⟨by rw [c5]; rfl, ⟨hd, sd, (up_id o1).symm⟩⟩)
set_option maxHeartbeats 4000000 in
set_option maxRecDepth 100000 in
theorem k_X11_mark (l : Launch) {G : GT} {c : Nat → va_E} {n n1 rn tn n2 qn : Nat} {z hd sd fr tto tk wo iz : Int32} {im : Bool} (o1 : c 32 = .inr (9, [.ref (gad G 33), .ref (gad G 34), .ref (gad G 35), .int (nI n), .int (nI n1), .int z, .int hd, .int sd, .ref (gad G 36), .ref (gad G 37), .int (nI rn), .ref (gad G 38), .int (nI tn), .int fr, .int tto, .int tk, .int wo, .ref (gad G 39), .ref (gad G 40), .ref (gad G 41), .ref (gad G 42), .ref (gad G 43), .ref (gad G 44), .int (nI n2), .int (nI qn), .int iz, .int (bi im)])) {f : Nat → Int32} (a1 : c 33 = .inl (gI G, 132, .inl f)) (hn : n ≤ 12) {f1 : Nat → Int32} (a2 : c 34 = .inl (gI G, 132, .inl f1)) (hn1 : n1 ≤ 12)  : Met l yX11_mark (wv yX11_mark cX11_mark 2 (some .int)) ({ frames := 0, cells := 0, slots := 0, locals := 0 } : Room) (va_Pc [.ref (gad G 32)] (fun U => Hw G c U U.heap)) (va_Qi (fun r (c9 : Nat → va_E) => r = nI n ∧ c9 = va_up (va_up c 34 (.inl (gI G, 132, .inl f))) 32 (.inr (9, [.ref (gad G 33), .ref (gad G 34), .ref (gad G 35), .int (nI n), .int (nI (n)), .int z, .int hd, .int sd, .ref (gad G 36), .ref (gad G 37), .int (nI rn), .ref (gad G 38), .int (nI tn), .int fr, .int tto, .int tk, .int wo, .ref (gad G 39), .ref (gad G 40), .ref (gad G 41), .ref (gad G 42), .ref (gad G 43), .ref (gad G 44), .int (nI n2), .int (nI qn), .int iz, .int (bi im)]))) (fun c9 t => Hw G c9 t t.heap) (gA G)) 0 0 (gA G) := by
  refine en (by decide +kernel) (by first | exact Nat.le_of_ble_eq_true rfl | decide) ?_
  intro p e s m below meth cd ls hx hb hr hml hown hts hlocks hnm hw hl
  have hl : lv_has ls 2 [(0, .ref (gad G 32))] := hl
  have hX : Sw G s s.heap := hw.2.2.2.2.2
  have hS : va_S (gA G) s.heap s.heap [] := va_S.rf
  obtain ⟨H, hH⟩ : ∃ wz9, wz9 = s.heap := ⟨_, rfl⟩
  obtain ⟨locs, hlocs⟩ : ∃ wz9 : List Loc, wz9 = [] := ⟨_, rfl⟩
  have hw : Hw G c s H := by rw [hH]; exact hw
  have hS : va_S (gA G) s.heap H locs := by rw [hH, hlocs]; exact hS
  suffices hgo : W p l e ({ frames := 0, cells := 0, slots := 0, locals := 0 } : Room) s m (([.ref (gad G 32)] : List Value).toArray) below meth cd H locs 0 0 (MQ below (va_Qi (fun r (c9 : Nat → va_E) => r = nI n ∧ c9 = va_up (va_up c 34 (.inl (gI G, 132, .inl f))) 32 (.inr (9, [.ref (gad G 33), .ref (gad G 34), .ref (gad G 35), .int (nI n), .int (nI (n)), .int z, .int hd, .int sd, .ref (gad G 36), .ref (gad G 37), .int (nI rn), .ref (gad G 38), .int (nI tn), .int fr, .int tto, .int tk, .int wo, .ref (gad G 39), .ref (gad G 40), .ref (gad G 41), .ref (gad G 42), .ref (gad G 43), .ref (gad G 44), .int (nI n2), .int (nI qn), .int iz, .int (bi im)]))) (fun c9 t => Hw G c9 t t.heap) (gA G)) ([.ref (gad G 32)] : List Value).toArray s 0 0 (gA G)) (F0 m 0 ls []) by rw [hH, hlocs] at hgo; exact hgo
  refine lv_iconst (v := 0) hx hb dX11_mark_0 (by decide) ?_
  refine lv_istore_n (lv' := [(1, _), (0, _)]) hx hb dX11_mark_1 rfl hl (by decide) rfl (fun ls hl => ?_)
  have L2 : ∀ (N : Nat) (i : Nat) (fz : Nat → Int32), (i + N = 132) → (fz = cpU f f1 i) → ∀ (c0 : Nat → va_E) (H : Heap) (locs : List Loc), (c0 = va_up c 34 (.inl (gI G, 132, .inl fz))) → Hw G c0 s H → va_S (gA G) s.heap H locs → ∀ ls : Array Slot, lv_has ls 2 [(1, .int (nI i)), (0, .ref (gad G 32))] → W p l e ({ frames := 0, cells := 0, slots := 0, locals := 0 } : Room) s m (([.ref (gad G 32)] : List Value).toArray) below meth cd H locs 0 0 (MQ below (va_Qi (fun r (c9 : Nat → va_E) => r = nI n ∧ c9 = va_up (va_up c 34 (.inl (gI G, 132, .inl f))) 32 (.inr (9, [.ref (gad G 33), .ref (gad G 34), .ref (gad G 35), .int (nI n), .int (nI (n)), .int z, .int hd, .int sd, .ref (gad G 36), .ref (gad G 37), .int (nI rn), .ref (gad G 38), .int (nI tn), .int fr, .int tto, .int tk, .int wo, .ref (gad G 39), .ref (gad G 40), .ref (gad G 41), .ref (gad G 42), .ref (gad G 43), .ref (gad G 44), .int (nI n2), .int (nI qn), .int iz, .int (bi im)]))) (fun c9 t => Hw G c9 t t.heap) (gA G)) ([.ref (gad G 32)] : List Value).toArray s 0 0 (gA G)) (F0 m 2 ls []) := by
    intro N
    induction N with
    | zero =>
      intro i  fz  hN hz c0 H locs e0 hw hS ls hl
      obtain rfl : i = 132 := by omega
      refine lv_iload_n hx hb dX11_mark_2 rfl (lv_at hl 0 rfl) ?_
      refine lv_sipush (v := 132) hx hb dX11_mark_3 (by decide) ?_
      refine lv_icmp_ge (tgt := 27) hx hb dX11_mark_6 (by decide) (fun c6 => ?_) (fun q => absurd (by decide) q)
      have hw := Hw.ext (c := c) (j := 34) (n := 132) (g := cpU f f1 132) (g' := f) (by decide) (by rw [← hz, ← e0]; exact hw) cpU_e
      obtain ⟨c0, e0⟩ : ∃ q, q = va_up c 34 (.inl (gI G, 132, .inl f)) := ⟨_, rfl⟩
      rw [← e0] at hw
      have o1 : c0 32 = .inr (9, [.ref (gad G 33), .ref (gad G 34), .ref (gad G 35), .int (nI n), .int (nI n1), .int z, .int hd, .int sd, .ref (gad G 36), .ref (gad G 37), .int (nI rn), .ref (gad G 38), .int (nI tn), .int fr, .int tto, .int tk, .int wo, .ref (gad G 39), .ref (gad G 40), .ref (gad G 41), .ref (gad G 42), .ref (gad G 43), .ref (gad G 44), .int (nI n2), .int (nI qn), .int iz, .int (bi im)]) := by rw [e0]; exact vu_e (by decide) o1
      have a1 : c0 33 = .inl (gI G, 132, .inl f) := by rw [e0]; exact vu_e (by decide) a1
      have a2 : c0 34 = .inl (gI G, 132, .inl f) := by rw [e0]; exact vu_s
      refine lv_aload_n hx hb dX11_mark_27 rfl (lv_at hl 1 rfl) ?_
      refine lv_aload_n hx hb dX11_mark_28 rfl (lv_at hl 1 rfl) ?_
      refine w_get (C := RX11) (T := TX11) (N := 27) 3 hx hb hts inX11 hown hw (by decide) o1 rfl (by decide) (hts _ tw_888) rfl dX11_mark_29 ?_
      refine w_put (C := RX11) (T := TX11) (N := 27) (v := .int (nI n)) 4 tyX11 hx hb hts inX11 tyX11_ok nmX11 hown hw hX hS (by decide) o1 rfl (by decide) (hts _ tw_889) rfl rfl (rfl) (rfl) (Nat.le_of_ble_eq_true rfl) dX11_mark_32 (fun H locs hw hS => ?_)
      obtain ⟨w2, ew2⟩ : ∃ wz9 : Nat → va_E, wz9 = va_up c0 32 (.inr (9, [.ref (gad G 33), .ref (gad G 34), .ref (gad G 35), .int (nI n), .int (nI n), .int z, .int hd, .int sd, .ref (gad G 36), .ref (gad G 37), .int (nI rn), .ref (gad G 38), .int (nI tn), .int fr, .int tto, .int tk, .int wo, .ref (gad G 39), .ref (gad G 40), .ref (gad G 41), .ref (gad G 42), .ref (gad G 43), .ref (gad G 44), .int (nI n2), .int (nI qn), .int iz, .int (bi im)])) := ⟨_, rfl⟩
      have hw : Hw G w2 s H := by rw [ew2]; exact hw
      have o1_2 : w2 32 = .inr (9, [.ref (gad G 33), .ref (gad G 34), .ref (gad G 35), .int (nI n), .int (nI n), .int z, .int hd, .int sd, .ref (gad G 36), .ref (gad G 37), .int (nI rn), .ref (gad G 38), .int (nI tn), .int fr, .int tto, .int tk, .int wo, .ref (gad G 39), .ref (gad G 40), .ref (gad G 41), .ref (gad G 42), .ref (gad G 43), .ref (gad G 44), .int (nI n2), .int (nI qn), .int iz, .int (bi im)]) := by rw [ew2]; exact vu_s
      have a1_2 : w2 33 = .inl (gI G, 132, .inl f) := by rw [ew2]; exact vu_e (by decide) a1
      have a2_2 : w2 34 = .inl (gI G, 132, .inl f) := by rw [ew2]; exact vu_e (by decide) a2
      refine lv_aload_n hx hb dX11_mark_35 rfl (lv_at hl 1 rfl) ?_
      refine w_get (C := RX11) (T := TX11) (N := 27) 3 hx hb hts inX11 hown hw (by decide) o1_2 rfl (by decide) (hts _ tw_888) rfl dX11_mark_36 ?_
      exact re_Q hx hb hr hlocks (rfl) hw hS dX11_mark_39 (⟨rfl, by rw [ew2, e0]⟩)
    | succ N ih =>
      intro i  fz  hN hz c0 H locs e0 hw hS ls hl
      have o1 : c0 32 = .inr (9, [.ref (gad G 33), .ref (gad G 34), .ref (gad G 35), .int (nI n), .int (nI n1), .int z, .int hd, .int sd, .ref (gad G 36), .ref (gad G 37), .int (nI rn), .ref (gad G 38), .int (nI tn), .int fr, .int tto, .int tk, .int wo, .ref (gad G 39), .ref (gad G 40), .ref (gad G 41), .ref (gad G 42), .ref (gad G 43), .ref (gad G 44), .int (nI n2), .int (nI qn), .int iz, .int (bi im)]) := by rw [e0]; exact vu_e (by decide) o1
      have a1 : c0 33 = .inl (gI G, 132, .inl f) := by rw [e0]; exact vu_e (by decide) a1
      have a2 : c0 34 = .inl (gI G, 132, .inl fz) := by rw [e0]; exact vu_s
      refine lv_iload_n hx hb dX11_mark_2 rfl (lv_at hl 0 rfl) ?_
      refine lv_sipush (v := 132) hx hb dX11_mark_3 (by decide) ?_
      refine lv_icmp_ge (tgt := 27) hx hb dX11_mark_6 (by decide) (fun q => absurd q (nI_ge (b := 132) (by omega) (by omega))) (fun c6 => ?_)
      refine lv_aload_n hx hb dX11_mark_9 rfl (lv_at hl 1 rfl) ?_
      refine w_get (C := RX11) (T := TX11) (N := 27) 1 hx hb hts inX11 hown hw (by decide) o1 rfl (by decide) (hts _ tw_886) rfl dX11_mark_10 ?_
      refine lv_iload_n hx hb dX11_mark_13 rfl (lv_at hl 0 rfl) ?_
      refine lv_aload_n hx hb dX11_mark_14 rfl (lv_at hl 1 rfl) ?_
      refine w_get (C := RX11) (T := TX11) (N := 27) 0 hx hb hts inX11 hown hw (by decide) o1 rfl (by decide) (hts _ tw_885) rfl dX11_mark_15 ?_
      refine lv_iload_n hx hb dX11_mark_18 rfl (lv_at hl 0 rfl) ?_
      refine w_ialdN (j := i) hx hb hw (by decide) a1 (rfl) (by omega) (by decide) dX11_mark_19 ?_
      refine w_iastN (j := i) (x := f i) hx hb hw hX hS (by decide) a2 (rfl) (by omega) (by decide) dX11_mark_20 (fun H locs hw hS => ?_)
      obtain ⟨w3, ew3⟩ : ∃ wz9 : Nat → va_E, wz9 = va_up c0 34 (.inl (gI G, 132, .inl (upd fz (i) (f i)))) := ⟨_, rfl⟩
      have hw : Hw G w3 s H := by rw [ew3]; exact hw
      have o1_3 : w3 32 = .inr (9, [.ref (gad G 33), .ref (gad G 34), .ref (gad G 35), .int (nI n), .int (nI n1), .int z, .int hd, .int sd, .ref (gad G 36), .ref (gad G 37), .int (nI rn), .ref (gad G 38), .int (nI tn), .int fr, .int tto, .int tk, .int wo, .ref (gad G 39), .ref (gad G 40), .ref (gad G 41), .ref (gad G 42), .ref (gad G 43), .ref (gad G 44), .int (nI n2), .int (nI qn), .int iz, .int (bi im)]) := by rw [ew3]; exact vu_e (by decide) o1
      have a1_3 : w3 33 = .inl (gI G, 132, .inl f) := by rw [ew3]; exact vu_e (by decide) a1
      have a2_3 : w3 34 = .inl (gI G, 132, .inl (upd fz (i) (f i))) := by rw [ew3]; exact vu_s
      refine lv_iinc (v := nI (i + 1)) (lv' := [(1, _), (0, _)]) hx hb dX11_mark_21 hl (k := 0) rfl (inc1 i) (by decide) rfl (fun ls hl => ?_)
      refine lv_goto (tgt := 2) hx hb dX11_mark_24 (by decide) ?_
      exact ih (i + 1) (cpU f f1 (i + 1)) (by omega) rfl _ H locs (by rw [ew3, e0, up_up, hz, cpU_s]) hw hS ls (lv_sub hl [0, 1] rfl)
  exact L2 132 0 f1 (by omega) (cpU_0 f f1).symm _ H locs (up_id a2).symm hw hS ls (lv_sub hl [0, 1] rfl)
set_option maxHeartbeats 4000000 in
set_option maxRecDepth 100000 in
theorem k_X11_drawn (l : Launch) {G : GT} {c : Nat → va_E} {n n1 rn tn n2 qn : Nat} {z hd sd fr tto tk wo iz : Int32} {im : Bool} (o1 : c 32 = .inr (9, [.ref (gad G 33), .ref (gad G 34), .ref (gad G 35), .int (nI n), .int (nI n1), .int z, .int hd, .int sd, .ref (gad G 36), .ref (gad G 37), .int (nI rn), .ref (gad G 38), .int (nI tn), .int fr, .int tto, .int tk, .int wo, .ref (gad G 39), .ref (gad G 40), .ref (gad G 41), .ref (gad G 42), .ref (gad G 43), .ref (gad G 44), .int (nI n2), .int (nI qn), .int iz, .int (bi im)])) {f : Nat → Int32} (a1 : c 33 = .inl (gI G, 132, .inl f)) (hn : n ≤ 12) {f1 : Nat → Int32} (a2 : c 34 = .inl (gI G, 132, .inl f1)) (hn1 : n1 ≤ 12) {d w : Int32} (hI : cI f n) (hI1 : cI f1 n1) : Met l yX11_drawn (wv yX11_drawn cX11_drawn 5 (some .int)) ({ frames := 7, cells := 0, slots := 0, locals := 164 } : Room) (va_Pc [.ref (gad G 32), .int d, .int w] (fun U => Hw G c U U.heap)) (va_Qi (fun r (c9 : Nat → va_E) => ((isDy d && wn w 1 50) = false ∧ r = -2 ∧ c9 = c) ∨ (∃ j9 : Nat, 1 ≤ j9 ∧ j9 ≤ 50 ∧ w = nI j9 ∧ isDy d = true ∧ r = nI (drw (dP f n f1 n1 d) z j9).1 ∧ ∃ h8 s8 : Int32, c9 = va_up c 32 (.inr (9, [.ref (gad G 33), .ref (gad G 34), .ref (gad G 35), .int (nI n), .int (nI n1), .int ((drw (dP f n f1 n1 d) z j9).2), .int (h8), .int (s8), .ref (gad G 36), .ref (gad G 37), .int (nI rn), .ref (gad G 38), .int (nI tn), .int fr, .int tto, .int tk, .int wo, .ref (gad G 39), .ref (gad G 40), .ref (gad G 41), .ref (gad G 42), .ref (gad G 43), .ref (gad G 44), .int (nI n2), .int (nI qn), .int iz, .int (bi im)])))) (fun c9 t => Hw G c9 t t.heap) (gA G)) 0 0 (gA G) := by
  refine en (by decide +kernel) (by first | exact Nat.le_of_ble_eq_true rfl | decide) ?_
  intro p e s m below meth cd ls hx hb hr hml hown hts hlocks hnm hw hl
  have hl : lv_has ls 5 [(0, .ref (gad G 32)), (1, .int d), (2, .int w)] := hl
  have hX : Sw G s s.heap := hw.2.2.2.2.2
  have hS : va_S (gA G) s.heap s.heap [] := va_S.rf
  obtain ⟨H, hH⟩ : ∃ wz9, wz9 = s.heap := ⟨_, rfl⟩
  obtain ⟨locs, hlocs⟩ : ∃ wz9 : List Loc, wz9 = [] := ⟨_, rfl⟩
  have hw : Hw G c s H := by rw [hH]; exact hw
  have hS : va_S (gA G) s.heap H locs := by rw [hH, hlocs]; exact hS
  suffices hgo : W p l e ({ frames := 7, cells := 0, slots := 0, locals := 164 } : Room) s m (([.ref (gad G 32), .int d, .int w] : List Value).toArray) below meth cd H locs 0 0 (MQ below (va_Qi (fun r (c9 : Nat → va_E) => ((isDy d && wn w 1 50) = false ∧ r = -2 ∧ c9 = c) ∨ (∃ j9 : Nat, 1 ≤ j9 ∧ j9 ≤ 50 ∧ w = nI j9 ∧ isDy d = true ∧ r = nI (drw (dP f n f1 n1 d) z j9).1 ∧ ∃ h8 s8 : Int32, c9 = va_up c 32 (.inr (9, [.ref (gad G 33), .ref (gad G 34), .ref (gad G 35), .int (nI n), .int (nI n1), .int ((drw (dP f n f1 n1 d) z j9).2), .int (h8), .int (s8), .ref (gad G 36), .ref (gad G 37), .int (nI rn), .ref (gad G 38), .int (nI tn), .int fr, .int tto, .int tk, .int wo, .ref (gad G 39), .ref (gad G 40), .ref (gad G 41), .ref (gad G 42), .ref (gad G 43), .ref (gad G 44), .int (nI n2), .int (nI qn), .int iz, .int (bi im)])))) (fun c9 t => Hw G c9 t t.heap) (gA G)) ([.ref (gad G 32), .int d, .int w] : List Value).toArray s 0 0 (gA G)) (F0 m 0 ls []) by rw [hH, hlocs] at hgo; exact hgo
  refine lv_iload_n hx hb dX11_drawn_0 rfl (lv_at hl 1 rfl) ?_
  refine cSe (rST (As := [_]) ⟨hx, hb, hml, hown, hts⟩ (k_X11_isDay l ) (cv_X11_isDay hts tw_1050 rfl rfl ⟨Nat.le_of_ble_eq_true rfl, Nat.le_of_ble_eq_true rfl⟩) rfl hl.1 rfl (by first | exact Nat.le_of_ble_eq_true rfl | decide) dX11_drawn_1 ⟨Nat.zero_le _, Nat.zero_le _⟩) ?_
  refine zb_eq (tgt := 17) hx hb dX11_drawn_4 (by decide) (fun c4 => ?_) (fun c4 => ?_)
  · refine lv_bipush (v := (-2)) hx hb dX11_drawn_17 (by decide) ?_
    exact re_Q hx hb hr hlocks (rfl) hw hS dX11_drawn_19 (Or.inl ⟨by simp [c4], rfl, rfl⟩)
  · refine lv_iload_n hx hb dX11_drawn_7 rfl (lv_at hl 2 rfl) ?_
    refine lv_iconst (v := 1) hx hb dX11_drawn_8 (by decide) ?_
    refine lv_bipush (v := 50) hx hb dX11_drawn_9 (by decide) ?_
    refine cSe (rST (As := [_, _, _]) ⟨hx, hb, hml, hown, hts⟩ (k_X11_in l ) (cv_X11_in hts tw_987 rfl rfl ⟨Nat.le_of_ble_eq_true rfl, Nat.le_of_ble_eq_true rfl⟩) rfl hl.1 rfl (by first | exact Nat.le_of_ble_eq_true rfl | decide) dX11_drawn_11 ⟨Nat.zero_le _, Nat.zero_le _⟩) ?_
    refine zb_ne (tgt := 20) hx hb dX11_drawn_14 (by decide) (fun c14 => ?_) (fun c14 => ?_)
    · obtain ⟨k, hk1, hk2, rfl⟩ := wn_nI (a := 1) (b := 50) (by decide) (by decide) c14
      refine lv_iconst (v := 0) hx hb dX11_drawn_20 (by decide) ?_
      refine lv_istore_n (lv' := [(3, _), (0, _), (1, _), (2, _)]) hx hb dX11_drawn_21 rfl hl (by decide) rfl (fun ls hl => ?_)
      refine lv_iconst (v := 0) hx hb dX11_drawn_22 (by decide) ?_
      refine lv_istore (lv' := [(4, _), (3, _), (0, _), (1, _), (2, _)]) hx hb dX11_drawn_23 hl (by decide) rfl (fun ls hl => ?_)
      have L25 : ∀ (N : Nat) (i : Nat) (h7 s7 : Int32), (i + N = k) → ∀ (c0 : Nat → va_E) (H : Heap) (locs : List Loc), (c0 = va_up c 32 (.inr (9, [.ref (gad G 33), .ref (gad G 34), .ref (gad G 35), .int (nI n), .int (nI n1), .int ((drw (dP f n f1 n1 d) z i).2), .int (h7), .int (s7), .ref (gad G 36), .ref (gad G 37), .int (nI rn), .ref (gad G 38), .int (nI tn), .int fr, .int tto, .int tk, .int wo, .ref (gad G 39), .ref (gad G 40), .ref (gad G 41), .ref (gad G 42), .ref (gad G 43), .ref (gad G 44), .int (nI n2), .int (nI qn), .int iz, .int (bi im)]))) → Hw G c0 s H → va_S (gA G) s.heap H locs → ∀ ls : Array Slot, lv_has ls 5 [(4, .int (nI i)), (3, .int (nI (drw (dP f n f1 n1 d) z i).1)), (2, .int (nI k)), (1, .int d), (0, .ref (gad G 32))] → W p l e ({ frames := 7, cells := 0, slots := 0, locals := 164 } : Room) s m (([.ref (gad G 32), .int d, .int (nI k)] : List Value).toArray) below meth cd H locs 0 0 (MQ below (va_Qi (fun r (c9 : Nat → va_E) => ((isDy d && wn (nI k) 1 50) = false ∧ r = -2 ∧ c9 = c) ∨ (∃ j9 : Nat, 1 ≤ j9 ∧ j9 ≤ 50 ∧ (nI k) = nI j9 ∧ isDy d = true ∧ r = nI (drw (dP f n f1 n1 d) z j9).1 ∧ ∃ h8 s8 : Int32, c9 = va_up c 32 (.inr (9, [.ref (gad G 33), .ref (gad G 34), .ref (gad G 35), .int (nI n), .int (nI n1), .int ((drw (dP f n f1 n1 d) z j9).2), .int (h8), .int (s8), .ref (gad G 36), .ref (gad G 37), .int (nI rn), .ref (gad G 38), .int (nI tn), .int fr, .int tto, .int tk, .int wo, .ref (gad G 39), .ref (gad G 40), .ref (gad G 41), .ref (gad G 42), .ref (gad G 43), .ref (gad G 44), .int (nI n2), .int (nI qn), .int iz, .int (bi im)])))) (fun c9 t => Hw G c9 t t.heap) (gA G)) ([.ref (gad G 32), .int d, .int (nI k)] : List Value).toArray s 0 0 (gA G)) (F0 m 25 ls []) := by
        intro N
        induction N with
        | zero =>
          intro i  h7 s7  hN c0 H locs e0 hw hS ls hl
          have hik : i = k := by omega
          refine lv_iload hx hb dX11_drawn_25 (lv_at hl 0 rfl) ?_
          refine lv_iload_n hx hb dX11_drawn_27 rfl (lv_at hl 2 rfl) ?_
          refine lv_icmp_ge (tgt := 57) hx hb dX11_drawn_28 (by decide) (fun c28 => ?_) (fun q => absurd (nI_le (by omega) (by omega)) q)
          refine lv_iload_n hx hb dX11_drawn_57 rfl (lv_at hl 1 rfl) ?_
          exact re_Q hx hb hr hlocks (rfl) hw hS dX11_drawn_58 (Or.inr ⟨k, hk1, hk2, rfl, c4, by rw [hik], _, _, by rw [e0, hik]⟩)
        | succ N ih =>
          intro i  h7 s7  hN c0 H locs e0 hw hS ls hl
          have o1 : c0 32 = .inr (9, [.ref (gad G 33), .ref (gad G 34), .ref (gad G 35), .int (nI n), .int (nI n1), .int ((drw (dP f n f1 n1 d) z i).2), .int (h7), .int (s7), .ref (gad G 36), .ref (gad G 37), .int (nI rn), .ref (gad G 38), .int (nI tn), .int fr, .int tto, .int tk, .int wo, .ref (gad G 39), .ref (gad G 40), .ref (gad G 41), .ref (gad G 42), .ref (gad G 43), .ref (gad G 44), .int (nI n2), .int (nI qn), .int iz, .int (bi im)]) := by rw [e0]; exact vu_s
          have a1 : c0 33 = .inl (gI G, 132, .inl f) := by rw [e0]; exact vu_e (by decide) a1
          have a2 : c0 34 = .inl (gI G, 132, .inl f1) := by rw [e0]; exact vu_e (by decide) a2
          refine lv_iload hx hb dX11_drawn_25 (lv_at hl 0 rfl) ?_
          refine lv_iload_n hx hb dX11_drawn_27 rfl (lv_at hl 2 rfl) ?_
          refine lv_icmp_ge (tgt := 57) hx hb dX11_drawn_28 (by decide) (fun q => absurd q (nI_ge (by omega) (by omega))) (fun c28 => ?_)
          refine lv_iload_n hx hb dX11_drawn_31 rfl (lv_at hl 1 rfl) ?_
          refine lv_aload_n hx hb dX11_drawn_32 rfl (lv_at hl 4 rfl) ?_
          refine lv_aload_n hx hb dX11_drawn_33 rfl (lv_at hl 4 rfl) ?_
          refine cQi (rV (As := []) ⟨hx, hb, hml, hown, hts⟩ hw (k_X11_drawnOne l o1) (cv_X11_drawnOne hts tw_1135 rfl rfl ⟨Nat.le_of_ble_eq_true rfl, Nat.le_of_ble_eq_true rfl⟩) (by decide) o1 rfl rfl hl.1 rfl (by first | exact Nat.le_of_ble_eq_true rfl | decide) dX11_drawn_34 ⟨Nat.zero_le _, Nat.zero_le _⟩) hw hS (fun r34 w1 H locs hp34 hw hS => ?_)
          obtain ⟨er34, ec34⟩ := hp34
          subst er34
          have o1_1 : w1 32 = .inr (9, [.ref (gad G 33), .ref (gad G 34), .ref (gad G 35), .int (nI n), .int (nI n1), .int (zn5 (drw (dP f n f1 n1 d) z i).2), .int (h7), .int (s7), .ref (gad G 36), .ref (gad G 37), .int (nI rn), .ref (gad G 38), .int (nI tn), .int fr, .int tto, .int tk, .int wo, .ref (gad G 39), .ref (gad G 40), .ref (gad G 41), .ref (gad G 42), .ref (gad G 43), .ref (gad G 44), .int (nI n2), .int (nI qn), .int iz, .int (bi im)]) := by rw [ec34]; exact vu_s
          have a1_1 : w1 33 = .inl (gI G, 132, .inl f) := by rw [ec34]; exact (vu_e (by decide) a1)
          have a2_1 : w1 34 = .inl (gI G, 132, .inl f1) := by rw [ec34]; exact (vu_e (by decide) a2)
          refine lv_iload_n hx hb dX11_drawn_37 rfl (lv_at hl 3 rfl) ?_
          refine cQi (rV (As := [_, _]) ⟨hx, hb, hml, hown, hts⟩ hw (k_X11_touchedBy l o1_1 a1_1 hn a2_1 hn1 (zp_lt _) hI hI1) (cv_X11_touchedBy hts tw_1166 rfl rfl ⟨Nat.le_of_ble_eq_true rfl, Nat.le_of_ble_eq_true rfl⟩) (by decide) o1_1 rfl rfl hl.1 rfl (by first | exact Nat.le_of_ble_eq_true rfl | decide) dX11_drawn_38 ⟨Nat.zero_le _, Nat.zero_le _⟩) hw hS (fun r38 w2 H locs hp38 hw hS => ?_)
          obtain ⟨er38, ec38⟩ := hp38
          subst er38
          refine lv_if_ne (tgt := 48) hx hb dX11_drawn_41 (by decide) (fun c41 => ?_) (fun c41 => ?_)
          · skip
            refine lv_iconst (v := 1) hx hb dX11_drawn_48 (by decide) ?_
            refine lv_iadd hx hb dX11_drawn_49 ?_
            have e8 : dP f n f1 n1 d (zp (drw (dP f n f1 n1 d) z i).2) = true := by simp only [dP, decide_eq_true_eq]; exact fun q => c41 (sub0.mpr q)
            refine tp (y := nI (drw (dP f n f1 n1 d) z (i + 1)).1) (by rw [drw, e8]; exact nI_1 _) ?_
            refine lv_istore_n (lv' := [(3, _), (4, _), (2, _), (1, _), (0, _)]) hx hb dX11_drawn_50 rfl hl (by decide) rfl (fun ls hl => ?_)
            refine lv_iinc (v := nI (i + 1)) (lv' := [(4, _), (3, _), (2, _), (1, _), (0, _)]) hx hb dX11_drawn_51 hl (k := 1) rfl (inc1 i) (by decide) rfl (fun ls hl => ?_)
            refine lv_goto (tgt := 25) hx hb dX11_drawn_54 (by decide) ?_
            exact ih (i + 1) _ _ (by omega) _ H locs (by rw [ec38, ec34, e0, up_up, up_up]; rfl) hw hS ls (lv_sub hl [0, 1, 2, 3, 4] rfl)
          · refine lv_iconst (v := 0) hx hb dX11_drawn_44 (by decide) ?_
            refine lv_goto (tgt := 49) hx hb dX11_drawn_45 (by decide) ?_
            refine lv_iadd hx hb dX11_drawn_49 ?_
            have e8 : dP f n f1 n1 d (zp (drw (dP f n f1 n1 d) z i).2) = false := by simp only [dP, decide_eq_false_iff_not, Decidable.not_not]; exact sub0.mp c41
            refine tp (y := nI (drw (dP f n f1 n1 d) z (i + 1)).1) (by rw [drw, e8]; exact Int32.add_zero _) ?_
            refine lv_istore_n (lv' := [(3, _), (4, _), (2, _), (1, _), (0, _)]) hx hb dX11_drawn_50 rfl hl (by decide) rfl (fun ls hl => ?_)
            refine lv_iinc (v := nI (i + 1)) (lv' := [(4, _), (3, _), (2, _), (1, _), (0, _)]) hx hb dX11_drawn_51 hl (k := 1) rfl (inc1 i) (by decide) rfl (fun ls hl => ?_)
            refine lv_goto (tgt := 25) hx hb dX11_drawn_54 (by decide) ?_
            exact ih (i + 1) _ _ (by omega) _ H locs (by rw [ec38, ec34, e0, up_up, up_up]; rfl) hw hS ls (lv_sub hl [0, 1, 2, 3, 4] rfl)
      exact L25 k 0 hd sd (by omega) _ H locs (up_id o1).symm hw hS ls (lv_sub hl [0, 1, 4, 3, 2] rfl)
    · refine lv_bipush (v := (-2)) hx hb dX11_drawn_17 (by decide) ?_
      exact re_Q hx hb hr hlocks (rfl) hw hS dX11_drawn_19 (Or.inl ⟨by simp [c4, c14], rfl, rfl⟩)
set_option maxHeartbeats 4000000 in
set_option maxRecDepth 100000 in
theorem k_X11_forget (l : Launch) {G : GT} {c : Nat → va_E} {n n1 rn tn n2 qn : Nat} {z hd sd fr tto tk wo iz : Int32} {im : Bool} (o1 : c 32 = .inr (9, [.ref (gad G 33), .ref (gad G 34), .ref (gad G 35), .int (nI n), .int (nI n1), .int z, .int hd, .int sd, .ref (gad G 36), .ref (gad G 37), .int (nI rn), .ref (gad G 38), .int (nI tn), .int fr, .int tto, .int tk, .int wo, .ref (gad G 39), .ref (gad G 40), .ref (gad G 41), .ref (gad G 42), .ref (gad G 43), .ref (gad G 44), .int (nI n2), .int (nI qn), .int iz, .int (bi im)])) {rf : Nat → Int32} {rt : Nat → Int32} (a3 : c 36 = .inl (gI G, 128, .inl rf)) (a4 : c 37 = .inl (gI G, 16, .inl rt)) (hrn : rn ≤ 16)  : Met l yX11_forget (wv yX11_forget cX11_forget 2 (some .int)) ({ frames := 0, cells := 0, slots := 0, locals := 0 } : Room) (va_Pc [.ref (gad G 32)] (fun U => Hw G c U U.heap)) (va_Qi (fun r (c9 : Nat → va_E) => r = nI rn ∧ c9 = va_up c 32 (.inr (9, [.ref (gad G 33), .ref (gad G 34), .ref (gad G 35), .int (nI n), .int (nI n1), .int z, .int hd, .int sd, .ref (gad G 36), .ref (gad G 37), .int (nI (0)), .ref (gad G 38), .int (nI tn), .int fr, .int tto, .int tk, .int wo, .ref (gad G 39), .ref (gad G 40), .ref (gad G 41), .ref (gad G 42), .ref (gad G 43), .ref (gad G 44), .int (nI n2), .int (nI qn), .int iz, .int (bi im)]))) (fun c9 t => Hw G c9 t t.heap) (gA G)) 0 0 (gA G) := by
  refine en (by decide +kernel) (by first | exact Nat.le_of_ble_eq_true rfl | decide) ?_
  intro p e s m below meth cd ls hx hb hr hml hown hts hlocks hnm hw hl
  have hl : lv_has ls 2 [(0, .ref (gad G 32))] := hl
  have hX : Sw G s s.heap := hw.2.2.2.2.2
  have hS : va_S (gA G) s.heap s.heap [] := va_S.rf
  obtain ⟨H, hH⟩ : ∃ wz9, wz9 = s.heap := ⟨_, rfl⟩
  obtain ⟨locs, hlocs⟩ : ∃ wz9 : List Loc, wz9 = [] := ⟨_, rfl⟩
  have hw : Hw G c s H := by rw [hH]; exact hw
  have hS : va_S (gA G) s.heap H locs := by rw [hH, hlocs]; exact hS
  suffices hgo : W p l e ({ frames := 0, cells := 0, slots := 0, locals := 0 } : Room) s m (([.ref (gad G 32)] : List Value).toArray) below meth cd H locs 0 0 (MQ below (va_Qi (fun r (c9 : Nat → va_E) => r = nI rn ∧ c9 = va_up c 32 (.inr (9, [.ref (gad G 33), .ref (gad G 34), .ref (gad G 35), .int (nI n), .int (nI n1), .int z, .int hd, .int sd, .ref (gad G 36), .ref (gad G 37), .int (nI (0)), .ref (gad G 38), .int (nI tn), .int fr, .int tto, .int tk, .int wo, .ref (gad G 39), .ref (gad G 40), .ref (gad G 41), .ref (gad G 42), .ref (gad G 43), .ref (gad G 44), .int (nI n2), .int (nI qn), .int iz, .int (bi im)]))) (fun c9 t => Hw G c9 t t.heap) (gA G)) ([.ref (gad G 32)] : List Value).toArray s 0 0 (gA G)) (F0 m 0 ls []) by rw [hH, hlocs] at hgo; exact hgo
  refine lv_aload_n hx hb dX11_forget_0 rfl (lv_at hl 0 rfl) ?_
  refine w_get (C := RX11) (T := TX11) (N := 27) 10 hx hb hts inX11 hown hw (by decide) o1 rfl (by decide) (hts _ tw_895) rfl dX11_forget_1 ?_
  refine lv_istore_n (lv' := [(1, _), (0, _)]) hx hb dX11_forget_4 rfl hl (by decide) rfl (fun ls hl => ?_)
  refine lv_aload_n hx hb dX11_forget_5 rfl (lv_at hl 1 rfl) ?_
  refine lv_iconst (v := 0) hx hb dX11_forget_6 (by decide) ?_
  refine w_put (C := RX11) (T := TX11) (N := 27) (v := .int (nI 0)) 10 tyX11 hx hb hts inX11 tyX11_ok nmX11 hown hw hX hS (by decide) o1 rfl (by decide) (hts _ tw_895) rfl rfl (rfl) (rfl) (Nat.le_of_ble_eq_true rfl) dX11_forget_7 (fun H locs hw hS => ?_)
  obtain ⟨w2, ew2⟩ : ∃ wz9 : Nat → va_E, wz9 = va_up c 32 (.inr (9, [.ref (gad G 33), .ref (gad G 34), .ref (gad G 35), .int (nI n), .int (nI n1), .int z, .int hd, .int sd, .ref (gad G 36), .ref (gad G 37), .int (nI 0), .ref (gad G 38), .int (nI tn), .int fr, .int tto, .int tk, .int wo, .ref (gad G 39), .ref (gad G 40), .ref (gad G 41), .ref (gad G 42), .ref (gad G 43), .ref (gad G 44), .int (nI n2), .int (nI qn), .int iz, .int (bi im)])) := ⟨_, rfl⟩
  have hw : Hw G w2 s H := by rw [ew2]; exact hw
  have o1_2 : w2 32 = .inr (9, [.ref (gad G 33), .ref (gad G 34), .ref (gad G 35), .int (nI n), .int (nI n1), .int z, .int hd, .int sd, .ref (gad G 36), .ref (gad G 37), .int (nI 0), .ref (gad G 38), .int (nI tn), .int fr, .int tto, .int tk, .int wo, .ref (gad G 39), .ref (gad G 40), .ref (gad G 41), .ref (gad G 42), .ref (gad G 43), .ref (gad G 44), .int (nI n2), .int (nI qn), .int iz, .int (bi im)]) := by rw [ew2]; exact vu_s
  have a3_2 : w2 36 = .inl (gI G, 128, .inl rf) := by rw [ew2]; exact vu_e (by decide) a3
  have a4_2 : w2 37 = .inl (gI G, 16, .inl rt) := by rw [ew2]; exact vu_e (by decide) a4
  refine lv_iload_n hx hb dX11_forget_10 rfl (lv_at hl 0 rfl) ?_
  exact re_Q hx hb hr hlocks (rfl) hw hS dX11_forget_11 (⟨rfl, ew2⟩)
set_option maxHeartbeats 4000000 in
set_option maxRecDepth 100000 in
theorem k_X11_wipe (l : Launch) {G : GT} {c : Nat → va_E} {n n1 rn tn n2 qn : Nat} {z hd sd fr tto tk wo iz : Int32} {im : Bool} (o1 : c 32 = .inr (9, [.ref (gad G 33), .ref (gad G 34), .ref (gad G 35), .int (nI n), .int (nI n1), .int z, .int hd, .int sd, .ref (gad G 36), .ref (gad G 37), .int (nI rn), .ref (gad G 38), .int (nI tn), .int fr, .int tto, .int tk, .int wo, .ref (gad G 39), .ref (gad G 40), .ref (gad G 41), .ref (gad G 42), .ref (gad G 43), .ref (gad G 44), .int (nI n2), .int (nI qn), .int iz, .int (bi im)])) {tf : Nat → Int32} (a5 : c 38 = .inl (gI G, 120, .inl tf)) (htn : tn ≤ 120)  : Met l yX11_wipe (wv yX11_wipe cX11_wipe 2 (some .int)) ({ frames := 0, cells := 0, slots := 0, locals := 0 } : Room) (va_Pc [.ref (gad G 32)] (fun U => Hw G c U U.heap)) (va_Qi (fun r (c9 : Nat → va_E) => r = nI tn ∧ c9 = va_up c 32 (.inr (9, [.ref (gad G 33), .ref (gad G 34), .ref (gad G 35), .int (nI n), .int (nI n1), .int z, .int hd, .int sd, .ref (gad G 36), .ref (gad G 37), .int (nI rn), .ref (gad G 38), .int (nI (0)), .int fr, .int tto, .int tk, .int wo, .ref (gad G 39), .ref (gad G 40), .ref (gad G 41), .ref (gad G 42), .ref (gad G 43), .ref (gad G 44), .int (nI n2), .int (nI qn), .int iz, .int (bi im)]))) (fun c9 t => Hw G c9 t t.heap) (gA G)) 0 0 (gA G) := by
  refine en (by decide +kernel) (by first | exact Nat.le_of_ble_eq_true rfl | decide) ?_
  intro p e s m below meth cd ls hx hb hr hml hown hts hlocks hnm hw hl
  have hl : lv_has ls 2 [(0, .ref (gad G 32))] := hl
  have hX : Sw G s s.heap := hw.2.2.2.2.2
  have hS : va_S (gA G) s.heap s.heap [] := va_S.rf
  obtain ⟨H, hH⟩ : ∃ wz9, wz9 = s.heap := ⟨_, rfl⟩
  obtain ⟨locs, hlocs⟩ : ∃ wz9 : List Loc, wz9 = [] := ⟨_, rfl⟩
  have hw : Hw G c s H := by rw [hH]; exact hw
  have hS : va_S (gA G) s.heap H locs := by rw [hH, hlocs]; exact hS
  suffices hgo : W p l e ({ frames := 0, cells := 0, slots := 0, locals := 0 } : Room) s m (([.ref (gad G 32)] : List Value).toArray) below meth cd H locs 0 0 (MQ below (va_Qi (fun r (c9 : Nat → va_E) => r = nI tn ∧ c9 = va_up c 32 (.inr (9, [.ref (gad G 33), .ref (gad G 34), .ref (gad G 35), .int (nI n), .int (nI n1), .int z, .int hd, .int sd, .ref (gad G 36), .ref (gad G 37), .int (nI rn), .ref (gad G 38), .int (nI (0)), .int fr, .int tto, .int tk, .int wo, .ref (gad G 39), .ref (gad G 40), .ref (gad G 41), .ref (gad G 42), .ref (gad G 43), .ref (gad G 44), .int (nI n2), .int (nI qn), .int iz, .int (bi im)]))) (fun c9 t => Hw G c9 t t.heap) (gA G)) ([.ref (gad G 32)] : List Value).toArray s 0 0 (gA G)) (F0 m 0 ls []) by rw [hH, hlocs] at hgo; exact hgo
  refine lv_aload_n hx hb dX11_wipe_0 rfl (lv_at hl 0 rfl) ?_
  refine w_get (C := RX11) (T := TX11) (N := 27) 12 hx hb hts inX11 hown hw (by decide) o1 rfl (by decide) (hts _ tw_897) rfl dX11_wipe_1 ?_
  refine lv_istore_n (lv' := [(1, _), (0, _)]) hx hb dX11_wipe_4 rfl hl (by decide) rfl (fun ls hl => ?_)
  refine lv_aload_n hx hb dX11_wipe_5 rfl (lv_at hl 1 rfl) ?_
  refine lv_iconst (v := 0) hx hb dX11_wipe_6 (by decide) ?_
  refine w_put (C := RX11) (T := TX11) (N := 27) (v := .int (nI 0)) 12 tyX11 hx hb hts inX11 tyX11_ok nmX11 hown hw hX hS (by decide) o1 rfl (by decide) (hts _ tw_897) rfl rfl (rfl) (rfl) (Nat.le_of_ble_eq_true rfl) dX11_wipe_7 (fun H locs hw hS => ?_)
  obtain ⟨w2, ew2⟩ : ∃ wz9 : Nat → va_E, wz9 = va_up c 32 (.inr (9, [.ref (gad G 33), .ref (gad G 34), .ref (gad G 35), .int (nI n), .int (nI n1), .int z, .int hd, .int sd, .ref (gad G 36), .ref (gad G 37), .int (nI rn), .ref (gad G 38), .int (nI 0), .int fr, .int tto, .int tk, .int wo, .ref (gad G 39), .ref (gad G 40), .ref (gad G 41), .ref (gad G 42), .ref (gad G 43), .ref (gad G 44), .int (nI n2), .int (nI qn), .int iz, .int (bi im)])) := ⟨_, rfl⟩
  have hw : Hw G w2 s H := by rw [ew2]; exact hw
  have o1_2 : w2 32 = .inr (9, [.ref (gad G 33), .ref (gad G 34), .ref (gad G 35), .int (nI n), .int (nI n1), .int z, .int hd, .int sd, .ref (gad G 36), .ref (gad G 37), .int (nI rn), .ref (gad G 38), .int (nI 0), .int fr, .int tto, .int tk, .int wo, .ref (gad G 39), .ref (gad G 40), .ref (gad G 41), .ref (gad G 42), .ref (gad G 43), .ref (gad G 44), .int (nI n2), .int (nI qn), .int iz, .int (bi im)]) := by rw [ew2]; exact vu_s
  have a5_2 : w2 38 = .inl (gI G, 120, .inl tf) := by rw [ew2]; exact vu_e (by decide) a5
  refine lv_iload_n hx hb dX11_wipe_10 rfl (lv_at hl 0 rfl) ?_
  exact re_Q hx hb hr hlocks (rfl) hw hS dX11_wipe_11 (⟨rfl, ew2⟩)
set_option maxHeartbeats 4000000 in
set_option maxRecDepth 100000 in
theorem k_X11_seed (l : Launch) {G : GT} {c : Nat → va_E} {n n1 rn tn n2 qn : Nat} {z hd sd fr tto tk wo iz : Int32} {im : Bool} (o1 : c 32 = .inr (9, [.ref (gad G 33), .ref (gad G 34), .ref (gad G 35), .int (nI n), .int (nI n1), .int z, .int hd, .int sd, .ref (gad G 36), .ref (gad G 37), .int (nI rn), .ref (gad G 38), .int (nI tn), .int fr, .int tto, .int tk, .int wo, .ref (gad G 39), .ref (gad G 40), .ref (gad G 41), .ref (gad G 42), .ref (gad G 43), .ref (gad G 44), .int (nI n2), .int (nI qn), .int iz, .int (bi im)]))  {v : Int32} : Met l yX11_seed (wv yX11_seed cX11_seed 3 (some .int)) ({ frames := 0, cells := 0, slots := 0, locals := 0 } : Room) (va_Pc [.ref (gad G 32), .int v] (fun U => Hw G c U U.heap)) (va_Qi (fun r (c9 : Nat → va_E) => r = z ∧ c9 = va_up c 32 (.inr (9, [.ref (gad G 33), .ref (gad G 34), .ref (gad G 35), .int (nI n), .int (nI n1), .int (v), .int hd, .int sd, .ref (gad G 36), .ref (gad G 37), .int (nI rn), .ref (gad G 38), .int (nI tn), .int fr, .int tto, .int tk, .int wo, .ref (gad G 39), .ref (gad G 40), .ref (gad G 41), .ref (gad G 42), .ref (gad G 43), .ref (gad G 44), .int (nI n2), .int (nI qn), .int iz, .int (bi im)]))) (fun c9 t => Hw G c9 t t.heap) (gA G)) 0 0 (gA G) := by
  refine en (by decide +kernel) (by first | exact Nat.le_of_ble_eq_true rfl | decide) ?_
  intro p e s m below meth cd ls hx hb hr hml hown hts hlocks hnm hw hl
  have hl : lv_has ls 3 [(0, .ref (gad G 32)), (1, .int v)] := hl
  have hX : Sw G s s.heap := hw.2.2.2.2.2
  have hS : va_S (gA G) s.heap s.heap [] := va_S.rf
  obtain ⟨H, hH⟩ : ∃ wz9, wz9 = s.heap := ⟨_, rfl⟩
  obtain ⟨locs, hlocs⟩ : ∃ wz9 : List Loc, wz9 = [] := ⟨_, rfl⟩
  have hw : Hw G c s H := by rw [hH]; exact hw
  have hS : va_S (gA G) s.heap H locs := by rw [hH, hlocs]; exact hS
  suffices hgo : W p l e ({ frames := 0, cells := 0, slots := 0, locals := 0 } : Room) s m (([.ref (gad G 32), .int v] : List Value).toArray) below meth cd H locs 0 0 (MQ below (va_Qi (fun r (c9 : Nat → va_E) => r = z ∧ c9 = va_up c 32 (.inr (9, [.ref (gad G 33), .ref (gad G 34), .ref (gad G 35), .int (nI n), .int (nI n1), .int (v), .int hd, .int sd, .ref (gad G 36), .ref (gad G 37), .int (nI rn), .ref (gad G 38), .int (nI tn), .int fr, .int tto, .int tk, .int wo, .ref (gad G 39), .ref (gad G 40), .ref (gad G 41), .ref (gad G 42), .ref (gad G 43), .ref (gad G 44), .int (nI n2), .int (nI qn), .int iz, .int (bi im)]))) (fun c9 t => Hw G c9 t t.heap) (gA G)) ([.ref (gad G 32), .int v] : List Value).toArray s 0 0 (gA G)) (F0 m 0 ls []) by rw [hH, hlocs] at hgo; exact hgo
  refine lv_aload_n hx hb dX11_seed_0 rfl (lv_at hl 0 rfl) ?_
  refine w_get (C := RX11) (T := TX11) (N := 27) 5 hx hb hts inX11 hown hw (by decide) o1 rfl (by decide) (hts _ tw_890) rfl dX11_seed_1 ?_
  refine lv_istore_n (lv' := [(2, _), (0, _), (1, _)]) hx hb dX11_seed_4 rfl hl (by decide) rfl (fun ls hl => ?_)
  refine lv_aload_n hx hb dX11_seed_5 rfl (lv_at hl 1 rfl) ?_
  refine lv_iload_n hx hb dX11_seed_6 rfl (lv_at hl 2 rfl) ?_
  refine w_put (C := RX11) (T := TX11) (N := 27) (v := .int v) 5 tyX11 hx hb hts inX11 tyX11_ok nmX11 hown hw hX hS (by decide) o1 rfl (by decide) (hts _ tw_890) rfl rfl (rfl) (rfl) (Nat.le_of_ble_eq_true rfl) dX11_seed_7 (fun H locs hw hS => ?_)
  obtain ⟨w2, ew2⟩ : ∃ wz9 : Nat → va_E, wz9 = va_up c 32 (.inr (9, [.ref (gad G 33), .ref (gad G 34), .ref (gad G 35), .int (nI n), .int (nI n1), .int v, .int hd, .int sd, .ref (gad G 36), .ref (gad G 37), .int (nI rn), .ref (gad G 38), .int (nI tn), .int fr, .int tto, .int tk, .int wo, .ref (gad G 39), .ref (gad G 40), .ref (gad G 41), .ref (gad G 42), .ref (gad G 43), .ref (gad G 44), .int (nI n2), .int (nI qn), .int iz, .int (bi im)])) := ⟨_, rfl⟩
  have hw : Hw G w2 s H := by rw [ew2]; exact hw
  have o1_2 : w2 32 = .inr (9, [.ref (gad G 33), .ref (gad G 34), .ref (gad G 35), .int (nI n), .int (nI n1), .int v, .int hd, .int sd, .ref (gad G 36), .ref (gad G 37), .int (nI rn), .ref (gad G 38), .int (nI tn), .int fr, .int tto, .int tk, .int wo, .ref (gad G 39), .ref (gad G 40), .ref (gad G 41), .ref (gad G 42), .ref (gad G 43), .ref (gad G 44), .int (nI n2), .int (nI qn), .int iz, .int (bi im)]) := by rw [ew2]; exact vu_s
  refine lv_iload_n hx hb dX11_seed_10 rfl (lv_at hl 0 rfl) ?_
  exact re_Q hx hb hr hlocks (rfl) hw hS dX11_seed_11 (⟨rfl, ew2⟩)
set_option maxHeartbeats 4000000 in
set_option maxRecDepth 100000 in
theorem k_X11_count (l : Launch) {G : GT} {c : Nat → va_E} {n n1 rn tn n2 qn : Nat} {z hd sd fr tto tk wo iz : Int32} {im : Bool} (o1 : c 32 = .inr (9, [.ref (gad G 33), .ref (gad G 34), .ref (gad G 35), .int (nI n), .int (nI n1), .int z, .int hd, .int sd, .ref (gad G 36), .ref (gad G 37), .int (nI rn), .ref (gad G 38), .int (nI tn), .int fr, .int tto, .int tk, .int wo, .ref (gad G 39), .ref (gad G 40), .ref (gad G 41), .ref (gad G 42), .ref (gad G 43), .ref (gad G 44), .int (nI n2), .int (nI qn), .int iz, .int (bi im)]))  {w : Int32} : Met l yX11_count (wv yX11_count cX11_count 2 (some .int)) ({ frames := 0, cells := 0, slots := 0, locals := 0 } : Room) (va_Pc [.ref (gad G 32), .int w] (fun U => Hw G c U U.heap)) (vp_Si (fun r => r = if w = 0 then nI n else if w = 1 then nI rn else if w = 2 then nI tn else if w = 3 then z else -2)) 0 0 (fun _ => False) := by
  refine en (by decide +kernel) (by first | exact Nat.le_of_ble_eq_true rfl | decide) ?_
  intro p e s m below meth cd ls hx hb hr hml hown hts hlocks hnm hw hl
  have hl : lv_has ls 2 [(0, .ref (gad G 32)), (1, .int w)] := hl
  refine lv_iload_n hx hb dX11_count_0 rfl (lv_at hl 1 rfl) ?_
  refine lv_if_ne (tgt := 11) hx hb dX11_count_1 (by decide) (fun c1 => ?_) (fun c1 => ?_)
  · refine lv_iload_n hx hb dX11_count_11 rfl (lv_at hl 1 rfl) ?_
    refine lv_iconst (v := 1) hx hb dX11_count_12 (by decide) ?_
    refine lv_icmp_ne (tgt := 23) hx hb dX11_count_13 (by decide) (fun c13 => ?_) (fun c13 => ?_)
    · refine lv_iload_n hx hb dX11_count_23 rfl (lv_at hl 1 rfl) ?_
      refine lv_iconst (v := 2) hx hb dX11_count_24 (by decide) ?_
      refine lv_icmp_ne (tgt := 35) hx hb dX11_count_25 (by decide) (fun c25 => ?_) (fun c25 => ?_)
      · refine lv_iload_n hx hb dX11_count_35 rfl (lv_at hl 1 rfl) ?_
        refine lv_iconst (v := 3) hx hb dX11_count_36 (by decide) ?_
        refine lv_icmp_ne (tgt := 47) hx hb dX11_count_37 (by decide) (fun c37 => ?_) (fun c37 => ?_)
        · refine lv_bipush (v := (-2)) hx hb dX11_count_47 (by decide) ?_
          exact re_S hx hb hr hlocks (rfl) dX11_count_49 (by rw [if_neg c1, if_neg c13, if_neg c25, if_neg c37])
        · refine lv_aload_n hx hb dX11_count_40 rfl (lv_at hl 0 rfl) ?_
          refine w_get (C := RX11) (T := TX11) (N := 27) 5 hx hb hts inX11 hown hw (by decide) o1 rfl (by decide) (hts _ tw_890) rfl dX11_count_41 ?_
          refine lv_goto (tgt := 49) hx hb dX11_count_44 (by decide) ?_
          exact re_S hx hb hr hlocks (rfl) dX11_count_49 (by rw [if_neg c1, if_neg c13, if_neg c25, if_pos c37])
      · refine lv_aload_n hx hb dX11_count_28 rfl (lv_at hl 0 rfl) ?_
        refine w_get (C := RX11) (T := TX11) (N := 27) 12 hx hb hts inX11 hown hw (by decide) o1 rfl (by decide) (hts _ tw_897) rfl dX11_count_29 ?_
        refine lv_goto (tgt := 49) hx hb dX11_count_32 (by decide) ?_
        exact re_S hx hb hr hlocks (rfl) dX11_count_49 (by rw [if_neg c1, if_neg c13, if_pos c25])
    · refine lv_aload_n hx hb dX11_count_16 rfl (lv_at hl 0 rfl) ?_
      refine w_get (C := RX11) (T := TX11) (N := 27) 10 hx hb hts inX11 hown hw (by decide) o1 rfl (by decide) (hts _ tw_895) rfl dX11_count_17 ?_
      refine lv_goto (tgt := 49) hx hb dX11_count_20 (by decide) ?_
      exact re_S hx hb hr hlocks (rfl) dX11_count_49 (by rw [if_neg c1, if_pos c13])
  · refine lv_aload_n hx hb dX11_count_4 rfl (lv_at hl 0 rfl) ?_
    refine w_get (C := RX11) (T := TX11) (N := 27) 3 hx hb hts inX11 hown hw (by decide) o1 rfl (by decide) (hts _ tw_888) rfl dX11_count_5 ?_
    refine lv_goto (tgt := 49) hx hb dX11_count_8 (by decide) ?_
    exact re_S hx hb hr hlocks (rfl) dX11_count_49 (by rw [if_pos c1])
set_option maxHeartbeats 4000000 in
set_option maxRecDepth 100000 in
theorem k_X11_copies_132 (l : Launch) {G : GT} {c : Nat → va_E} {ja jb : Nat} {g1 g2 : Nat → Int32} (hja : ja < 45) (hjb : jb < 45) (x1 : c ja = .inl (gI G, 132, .inl g1)) (x2 : c jb = .inl (gI G, 132, .inl g2)) (hab : ja ≠ jb) : Met l yX11_copies (wv yX11_copies cX11_copies 3 none) ({ frames := 0, cells := 0, slots := 0, locals := 0 } : Room) (va_Pc [.ref (gad G ja), .ref (gad G jb)] (fun U => Hw G c U U.heap)) (va_Qv (fun c9 : Nat → va_E => c9 = va_up c jb (.inl (gI G, 132, .inl g1))) (fun c9 t => Hw G c9 t t.heap) (gA G)) 0 0 (gA G) := by
  refine en (by decide +kernel) (by first | exact Nat.le_of_ble_eq_true rfl | decide) ?_
  intro p e s m below meth cd ls hx hb hr hml hown hts hlocks hnm hw hl
  have hl : lv_has ls 3 [(0, .ref (gad G ja)), (1, .ref (gad G jb))] := hl
  have hX : Sw G s s.heap := hw.2.2.2.2.2
  have hS : va_S (gA G) s.heap s.heap [] := va_S.rf
  obtain ⟨H, hH⟩ : ∃ wz9, wz9 = s.heap := ⟨_, rfl⟩
  obtain ⟨locs, hlocs⟩ : ∃ wz9 : List Loc, wz9 = [] := ⟨_, rfl⟩
  have hw : Hw G c s H := by rw [hH]; exact hw
  have hS : va_S (gA G) s.heap H locs := by rw [hH, hlocs]; exact hS
  suffices hgo : W p l e ({ frames := 0, cells := 0, slots := 0, locals := 0 } : Room) s m (([.ref (gad G ja), .ref (gad G jb)] : List Value).toArray) below meth cd H locs 0 0 (MQ below (va_Qv (fun c9 : Nat → va_E => c9 = va_up c jb (.inl (gI G, 132, .inl g1))) (fun c9 t => Hw G c9 t t.heap) (gA G)) ([.ref (gad G ja), .ref (gad G jb)] : List Value).toArray s 0 0 (gA G)) (F0 m 0 ls []) by rw [hH, hlocs] at hgo; exact hgo
  refine lv_iconst (v := 0) hx hb dX11_copies_0 (by decide) ?_
  refine lv_istore_n (lv' := [(2, _), (0, _), (1, _)]) hx hb dX11_copies_1 rfl hl (by decide) rfl (fun ls hl => ?_)
  have L2 : ∀ (N : Nat) (i : Nat) (fz : Nat → Int32), (i + N = 132) → (fz = cpU g1 g2 i) → ∀ (c0 : Nat → va_E) (H : Heap) (locs : List Loc), (c0 = va_up c jb (.inl (gI G, 132, .inl fz))) → Hw G c0 s H → va_S (gA G) s.heap H locs → ∀ ls : Array Slot, lv_has ls 3 [(2, .int (nI i)), (1, .ref (gad G jb)), (0, .ref (gad G ja))] → W p l e ({ frames := 0, cells := 0, slots := 0, locals := 0 } : Room) s m (([.ref (gad G ja), .ref (gad G jb)] : List Value).toArray) below meth cd H locs 0 0 (MQ below (va_Qv (fun c9 : Nat → va_E => c9 = va_up c jb (.inl (gI G, 132, .inl g1))) (fun c9 t => Hw G c9 t t.heap) (gA G)) ([.ref (gad G ja), .ref (gad G jb)] : List Value).toArray s 0 0 (gA G)) (F0 m 2 ls []) := by
    intro N
    induction N with
    | zero =>
      intro i  fz  hN hz c0 H locs e0 hw hS ls hl
      obtain rfl : i = 132 := by omega
      have x2 : c0 jb = .inl (gI G, 132, .inl fz) := by rw [e0]; exact vu_s
      refine lv_iload_n hx hb dX11_copies_2 rfl (lv_at hl 0 rfl) ?_
      refine lv_aload_n hx hb dX11_copies_3 rfl (lv_at hl 1 rfl) ?_
      refine w_alen hx hb hw hjb x2 dX11_copies_4 ?_
      refine lv_icmp_ge (tgt := 20) hx hb dX11_copies_5 (by decide) (fun c5 => ?_) (fun q => absurd (by decide) q)
      have hw := Hw.ext (c := c) (j := jb) (n := 132) (g := cpU g1 g2 132) (g' := g1) hjb (by rw [← hz, ← e0]; exact hw) cpU_e
      exact re_V hx hb hr hlocks hw hS dX11_copies_20 (rfl)
    | succ N ih =>
      intro i  fz  hN hz c0 H locs e0 hw hS ls hl
      have x1 : c0 ja = .inl (gI G, 132, .inl g1) := by rw [e0]; exact vu_e hab x1
      have x2 : c0 jb = .inl (gI G, 132, .inl fz) := by rw [e0]; exact vu_s
      refine lv_iload_n hx hb dX11_copies_2 rfl (lv_at hl 0 rfl) ?_
      refine lv_aload_n hx hb dX11_copies_3 rfl (lv_at hl 1 rfl) ?_
      refine w_alen hx hb hw hjb x2 dX11_copies_4 ?_
      refine lv_icmp_ge (tgt := 20) hx hb dX11_copies_5 (by decide) (fun q => absurd q (nI_ge (by omega) (by omega))) (fun c5 => ?_)
      refine lv_aload_n hx hb dX11_copies_8 rfl (lv_at hl 1 rfl) ?_
      refine lv_iload_n hx hb dX11_copies_9 rfl (lv_at hl 0 rfl) ?_
      refine lv_aload_n hx hb dX11_copies_10 rfl (lv_at hl 2 rfl) ?_
      refine lv_iload_n hx hb dX11_copies_11 rfl (lv_at hl 0 rfl) ?_
      refine w_ialdN (j := i) hx hb hw hja x1 (rfl) (by omega) (by decide) dX11_copies_12 ?_
      refine w_iastN (j := i) (x := g1 i) hx hb hw hX hS hjb x2 (rfl) (by omega) (by decide) dX11_copies_13 (fun H locs hw hS => ?_)
      obtain ⟨w1, ew1⟩ : ∃ wz9 : Nat → va_E, wz9 = va_up c0 jb (.inl (gI G, 132, .inl (upd fz (i) (g1 i)))) := ⟨_, rfl⟩
      have hw : Hw G w1 s H := by rw [ew1]; exact hw
      have x1_1 : w1 ja = .inl (gI G, 132, .inl g1) := by rw [ew1]; exact vu_e (hab) x1
      have x2_1 : w1 jb = .inl (gI G, 132, .inl (upd fz (i) (g1 i))) := by rw [ew1]; exact vu_s
      refine lv_iinc (v := nI (i + 1)) (lv' := [(2, _), (1, _), (0, _)]) hx hb dX11_copies_14 hl (k := 0) rfl (inc1 i) (by decide) rfl (fun ls hl => ?_)
      refine lv_goto (tgt := 2) hx hb dX11_copies_17 (by decide) ?_
      exact ih (i + 1) (cpU g1 g2 (i + 1)) (by omega) rfl _ H locs (by rw [ew1, e0, up_up, hz, cpU_s]) hw hS ls (lv_sub hl [0, 1, 2] rfl)
  exact L2 132 0 g2 (by omega) (cpU_0 g1 g2).symm _ H locs (up_id x2).symm hw hS ls (lv_sub hl [0, 2, 1] rfl)
set_option maxHeartbeats 4000000 in
set_option maxRecDepth 100000 in
theorem k_X11_copies_128 (l : Launch) {G : GT} {c : Nat → va_E} {ja jb : Nat} {g1 g2 : Nat → Int32} (hja : ja < 45) (hjb : jb < 45) (x1 : c ja = .inl (gI G, 128, .inl g1)) (x2 : c jb = .inl (gI G, 128, .inl g2)) (hab : ja ≠ jb) : Met l yX11_copies (wv yX11_copies cX11_copies 3 none) ({ frames := 0, cells := 0, slots := 0, locals := 0 } : Room) (va_Pc [.ref (gad G ja), .ref (gad G jb)] (fun U => Hw G c U U.heap)) (va_Qv (fun c9 : Nat → va_E => c9 = va_up c jb (.inl (gI G, 128, .inl g1))) (fun c9 t => Hw G c9 t t.heap) (gA G)) 0 0 (gA G) := by
  refine en (by decide +kernel) (by first | exact Nat.le_of_ble_eq_true rfl | decide) ?_
  intro p e s m below meth cd ls hx hb hr hml hown hts hlocks hnm hw hl
  have hl : lv_has ls 3 [(0, .ref (gad G ja)), (1, .ref (gad G jb))] := hl
  have hX : Sw G s s.heap := hw.2.2.2.2.2
  have hS : va_S (gA G) s.heap s.heap [] := va_S.rf
  obtain ⟨H, hH⟩ : ∃ wz9, wz9 = s.heap := ⟨_, rfl⟩
  obtain ⟨locs, hlocs⟩ : ∃ wz9 : List Loc, wz9 = [] := ⟨_, rfl⟩
  have hw : Hw G c s H := by rw [hH]; exact hw
  have hS : va_S (gA G) s.heap H locs := by rw [hH, hlocs]; exact hS
  suffices hgo : W p l e ({ frames := 0, cells := 0, slots := 0, locals := 0 } : Room) s m (([.ref (gad G ja), .ref (gad G jb)] : List Value).toArray) below meth cd H locs 0 0 (MQ below (va_Qv (fun c9 : Nat → va_E => c9 = va_up c jb (.inl (gI G, 128, .inl g1))) (fun c9 t => Hw G c9 t t.heap) (gA G)) ([.ref (gad G ja), .ref (gad G jb)] : List Value).toArray s 0 0 (gA G)) (F0 m 0 ls []) by rw [hH, hlocs] at hgo; exact hgo
  refine lv_iconst (v := 0) hx hb dX11_copies_0 (by decide) ?_
  refine lv_istore_n (lv' := [(2, _), (0, _), (1, _)]) hx hb dX11_copies_1 rfl hl (by decide) rfl (fun ls hl => ?_)
  have L2 : ∀ (N : Nat) (i : Nat) (fz : Nat → Int32), (i + N = 128) → (fz = cpU g1 g2 i) → ∀ (c0 : Nat → va_E) (H : Heap) (locs : List Loc), (c0 = va_up c jb (.inl (gI G, 128, .inl fz))) → Hw G c0 s H → va_S (gA G) s.heap H locs → ∀ ls : Array Slot, lv_has ls 3 [(2, .int (nI i)), (1, .ref (gad G jb)), (0, .ref (gad G ja))] → W p l e ({ frames := 0, cells := 0, slots := 0, locals := 0 } : Room) s m (([.ref (gad G ja), .ref (gad G jb)] : List Value).toArray) below meth cd H locs 0 0 (MQ below (va_Qv (fun c9 : Nat → va_E => c9 = va_up c jb (.inl (gI G, 128, .inl g1))) (fun c9 t => Hw G c9 t t.heap) (gA G)) ([.ref (gad G ja), .ref (gad G jb)] : List Value).toArray s 0 0 (gA G)) (F0 m 2 ls []) := by
    intro N
    induction N with
    | zero =>
      intro i  fz  hN hz c0 H locs e0 hw hS ls hl
      obtain rfl : i = 128 := by omega
      have x2 : c0 jb = .inl (gI G, 128, .inl fz) := by rw [e0]; exact vu_s
      refine lv_iload_n hx hb dX11_copies_2 rfl (lv_at hl 0 rfl) ?_
      refine lv_aload_n hx hb dX11_copies_3 rfl (lv_at hl 1 rfl) ?_
      refine w_alen hx hb hw hjb x2 dX11_copies_4 ?_
      refine lv_icmp_ge (tgt := 20) hx hb dX11_copies_5 (by decide) (fun c5 => ?_) (fun q => absurd (by decide) q)
      have hw := Hw.ext (c := c) (j := jb) (n := 128) (g := cpU g1 g2 128) (g' := g1) hjb (by rw [← hz, ← e0]; exact hw) cpU_e
      exact re_V hx hb hr hlocks hw hS dX11_copies_20 (rfl)
    | succ N ih =>
      intro i  fz  hN hz c0 H locs e0 hw hS ls hl
      have x1 : c0 ja = .inl (gI G, 128, .inl g1) := by rw [e0]; exact vu_e hab x1
      have x2 : c0 jb = .inl (gI G, 128, .inl fz) := by rw [e0]; exact vu_s
      refine lv_iload_n hx hb dX11_copies_2 rfl (lv_at hl 0 rfl) ?_
      refine lv_aload_n hx hb dX11_copies_3 rfl (lv_at hl 1 rfl) ?_
      refine w_alen hx hb hw hjb x2 dX11_copies_4 ?_
      refine lv_icmp_ge (tgt := 20) hx hb dX11_copies_5 (by decide) (fun q => absurd q (nI_ge (by omega) (by omega))) (fun c5 => ?_)
      refine lv_aload_n hx hb dX11_copies_8 rfl (lv_at hl 1 rfl) ?_
      refine lv_iload_n hx hb dX11_copies_9 rfl (lv_at hl 0 rfl) ?_
      refine lv_aload_n hx hb dX11_copies_10 rfl (lv_at hl 2 rfl) ?_
      refine lv_iload_n hx hb dX11_copies_11 rfl (lv_at hl 0 rfl) ?_
      refine w_ialdN (j := i) hx hb hw hja x1 (rfl) (by omega) (by decide) dX11_copies_12 ?_
      refine w_iastN (j := i) (x := g1 i) hx hb hw hX hS hjb x2 (rfl) (by omega) (by decide) dX11_copies_13 (fun H locs hw hS => ?_)
      obtain ⟨w1, ew1⟩ : ∃ wz9 : Nat → va_E, wz9 = va_up c0 jb (.inl (gI G, 128, .inl (upd fz (i) (g1 i)))) := ⟨_, rfl⟩
      have hw : Hw G w1 s H := by rw [ew1]; exact hw
      have x1_1 : w1 ja = .inl (gI G, 128, .inl g1) := by rw [ew1]; exact vu_e (hab) x1
      have x2_1 : w1 jb = .inl (gI G, 128, .inl (upd fz (i) (g1 i))) := by rw [ew1]; exact vu_s
      refine lv_iinc (v := nI (i + 1)) (lv' := [(2, _), (1, _), (0, _)]) hx hb dX11_copies_14 hl (k := 0) rfl (inc1 i) (by decide) rfl (fun ls hl => ?_)
      refine lv_goto (tgt := 2) hx hb dX11_copies_17 (by decide) ?_
      exact ih (i + 1) (cpU g1 g2 (i + 1)) (by omega) rfl _ H locs (by rw [ew1, e0, up_up, hz, cpU_s]) hw hS ls (lv_sub hl [0, 1, 2] rfl)
  exact L2 128 0 g2 (by omega) (cpU_0 g1 g2).symm _ H locs (up_id x2).symm hw hS ls (lv_sub hl [0, 2, 1] rfl)
set_option maxHeartbeats 4000000 in
set_option maxRecDepth 100000 in
theorem k_X11_copies_16 (l : Launch) {G : GT} {c : Nat → va_E} {ja jb : Nat} {g1 g2 : Nat → Int32} (hja : ja < 45) (hjb : jb < 45) (x1 : c ja = .inl (gI G, 16, .inl g1)) (x2 : c jb = .inl (gI G, 16, .inl g2)) (hab : ja ≠ jb) : Met l yX11_copies (wv yX11_copies cX11_copies 3 none) ({ frames := 0, cells := 0, slots := 0, locals := 0 } : Room) (va_Pc [.ref (gad G ja), .ref (gad G jb)] (fun U => Hw G c U U.heap)) (va_Qv (fun c9 : Nat → va_E => c9 = va_up c jb (.inl (gI G, 16, .inl g1))) (fun c9 t => Hw G c9 t t.heap) (gA G)) 0 0 (gA G) := by
  refine en (by decide +kernel) (by first | exact Nat.le_of_ble_eq_true rfl | decide) ?_
  intro p e s m below meth cd ls hx hb hr hml hown hts hlocks hnm hw hl
  have hl : lv_has ls 3 [(0, .ref (gad G ja)), (1, .ref (gad G jb))] := hl
  have hX : Sw G s s.heap := hw.2.2.2.2.2
  have hS : va_S (gA G) s.heap s.heap [] := va_S.rf
  obtain ⟨H, hH⟩ : ∃ wz9, wz9 = s.heap := ⟨_, rfl⟩
  obtain ⟨locs, hlocs⟩ : ∃ wz9 : List Loc, wz9 = [] := ⟨_, rfl⟩
  have hw : Hw G c s H := by rw [hH]; exact hw
  have hS : va_S (gA G) s.heap H locs := by rw [hH, hlocs]; exact hS
  suffices hgo : W p l e ({ frames := 0, cells := 0, slots := 0, locals := 0 } : Room) s m (([.ref (gad G ja), .ref (gad G jb)] : List Value).toArray) below meth cd H locs 0 0 (MQ below (va_Qv (fun c9 : Nat → va_E => c9 = va_up c jb (.inl (gI G, 16, .inl g1))) (fun c9 t => Hw G c9 t t.heap) (gA G)) ([.ref (gad G ja), .ref (gad G jb)] : List Value).toArray s 0 0 (gA G)) (F0 m 0 ls []) by rw [hH, hlocs] at hgo; exact hgo
  refine lv_iconst (v := 0) hx hb dX11_copies_0 (by decide) ?_
  refine lv_istore_n (lv' := [(2, _), (0, _), (1, _)]) hx hb dX11_copies_1 rfl hl (by decide) rfl (fun ls hl => ?_)
  have L2 : ∀ (N : Nat) (i : Nat) (fz : Nat → Int32), (i + N = 16) → (fz = cpU g1 g2 i) → ∀ (c0 : Nat → va_E) (H : Heap) (locs : List Loc), (c0 = va_up c jb (.inl (gI G, 16, .inl fz))) → Hw G c0 s H → va_S (gA G) s.heap H locs → ∀ ls : Array Slot, lv_has ls 3 [(2, .int (nI i)), (1, .ref (gad G jb)), (0, .ref (gad G ja))] → W p l e ({ frames := 0, cells := 0, slots := 0, locals := 0 } : Room) s m (([.ref (gad G ja), .ref (gad G jb)] : List Value).toArray) below meth cd H locs 0 0 (MQ below (va_Qv (fun c9 : Nat → va_E => c9 = va_up c jb (.inl (gI G, 16, .inl g1))) (fun c9 t => Hw G c9 t t.heap) (gA G)) ([.ref (gad G ja), .ref (gad G jb)] : List Value).toArray s 0 0 (gA G)) (F0 m 2 ls []) := by
    intro N
    induction N with
    | zero =>
      intro i  fz  hN hz c0 H locs e0 hw hS ls hl
      obtain rfl : i = 16 := by omega
      have x2 : c0 jb = .inl (gI G, 16, .inl fz) := by rw [e0]; exact vu_s
      refine lv_iload_n hx hb dX11_copies_2 rfl (lv_at hl 0 rfl) ?_
      refine lv_aload_n hx hb dX11_copies_3 rfl (lv_at hl 1 rfl) ?_
      refine w_alen hx hb hw hjb x2 dX11_copies_4 ?_
      refine lv_icmp_ge (tgt := 20) hx hb dX11_copies_5 (by decide) (fun c5 => ?_) (fun q => absurd (by decide) q)
      have hw := Hw.ext (c := c) (j := jb) (n := 16) (g := cpU g1 g2 16) (g' := g1) hjb (by rw [← hz, ← e0]; exact hw) cpU_e
      exact re_V hx hb hr hlocks hw hS dX11_copies_20 (rfl)
    | succ N ih =>
      intro i  fz  hN hz c0 H locs e0 hw hS ls hl
      have x1 : c0 ja = .inl (gI G, 16, .inl g1) := by rw [e0]; exact vu_e hab x1
      have x2 : c0 jb = .inl (gI G, 16, .inl fz) := by rw [e0]; exact vu_s
      refine lv_iload_n hx hb dX11_copies_2 rfl (lv_at hl 0 rfl) ?_
      refine lv_aload_n hx hb dX11_copies_3 rfl (lv_at hl 1 rfl) ?_
      refine w_alen hx hb hw hjb x2 dX11_copies_4 ?_
      refine lv_icmp_ge (tgt := 20) hx hb dX11_copies_5 (by decide) (fun q => absurd q (nI_ge (by omega) (by omega))) (fun c5 => ?_)
      refine lv_aload_n hx hb dX11_copies_8 rfl (lv_at hl 1 rfl) ?_
      refine lv_iload_n hx hb dX11_copies_9 rfl (lv_at hl 0 rfl) ?_
      refine lv_aload_n hx hb dX11_copies_10 rfl (lv_at hl 2 rfl) ?_
      refine lv_iload_n hx hb dX11_copies_11 rfl (lv_at hl 0 rfl) ?_
      refine w_ialdN (j := i) hx hb hw hja x1 (rfl) (by omega) (by decide) dX11_copies_12 ?_
      refine w_iastN (j := i) (x := g1 i) hx hb hw hX hS hjb x2 (rfl) (by omega) (by decide) dX11_copies_13 (fun H locs hw hS => ?_)
      obtain ⟨w1, ew1⟩ : ∃ wz9 : Nat → va_E, wz9 = va_up c0 jb (.inl (gI G, 16, .inl (upd fz (i) (g1 i)))) := ⟨_, rfl⟩
      have hw : Hw G w1 s H := by rw [ew1]; exact hw
      have x1_1 : w1 ja = .inl (gI G, 16, .inl g1) := by rw [ew1]; exact vu_e (hab) x1
      have x2_1 : w1 jb = .inl (gI G, 16, .inl (upd fz (i) (g1 i))) := by rw [ew1]; exact vu_s
      refine lv_iinc (v := nI (i + 1)) (lv' := [(2, _), (1, _), (0, _)]) hx hb dX11_copies_14 hl (k := 0) rfl (inc1 i) (by decide) rfl (fun ls hl => ?_)
      refine lv_goto (tgt := 2) hx hb dX11_copies_17 (by decide) ?_
      exact ih (i + 1) (cpU g1 g2 (i + 1)) (by omega) rfl _ H locs (by rw [ew1, e0, up_up, hz, cpU_s]) hw hS ls (lv_sub hl [0, 1, 2] rfl)
  exact L2 16 0 g2 (by omega) (cpU_0 g1 g2).symm _ H locs (up_id x2).symm hw hS ls (lv_sub hl [0, 2, 1] rfl)
set_option maxHeartbeats 4000000 in
set_option maxRecDepth 100000 in
theorem k_X11_image (l : Launch) {G : GT} {c : Nat → va_E} {n n1 rn tn n2 qn : Nat} {z hd sd fr tto tk wo iz : Int32} {im : Bool} (o1 : c 32 = .inr (9, [.ref (gad G 33), .ref (gad G 34), .ref (gad G 35), .int (nI n), .int (nI n1), .int z, .int hd, .int sd, .ref (gad G 36), .ref (gad G 37), .int (nI rn), .ref (gad G 38), .int (nI tn), .int fr, .int tto, .int tk, .int wo, .ref (gad G 39), .ref (gad G 40), .ref (gad G 41), .ref (gad G 42), .ref (gad G 43), .ref (gad G 44), .int (nI n2), .int (nI qn), .int iz, .int (bi im)])) {f : Nat → Int32} (a1 : c 33 = .inl (gI G, 132, .inl f)) (hn : n ≤ 12) {rf : Nat → Int32} {rt : Nat → Int32} (a3 : c 36 = .inl (gI G, 128, .inl rf)) (a4 : c 37 = .inl (gI G, 16, .inl rt)) (hrn : rn ≤ 16) {f2 qf qt : Nat → Int32} (a6 : c 35 = .inl (gI G, 132, .inl f2)) (a7 : c 43 = .inl (gI G, 128, .inl qf)) (a8 : c 44 = .inl (gI G, 16, .inl qt))  : Met l yX11_image (wv yX11_image cX11_image 1 (some .int)) ({ frames := 1, cells := 0, slots := 0, locals := 22 } : Room) (va_Pc [.ref (gad G 32)] (fun U => Hw G c U U.heap)) (va_Qi (fun r (c9 : Nat → va_E) => r = nI n ∧ c9 = va_up (va_up (va_up (va_up c 35 (.inl (gI G, 132, .inl f))) 43 (.inl (gI G, 128, .inl rf))) 44 (.inl (gI G, 16, .inl rt))) 32 (.inr (9, [.ref (gad G 33), .ref (gad G 34), .ref (gad G 35), .int (nI n), .int (nI n1), .int z, .int hd, .int sd, .ref (gad G 36), .ref (gad G 37), .int (nI rn), .ref (gad G 38), .int (nI tn), .int fr, .int tto, .int tk, .int wo, .ref (gad G 39), .ref (gad G 40), .ref (gad G 41), .ref (gad G 42), .ref (gad G 43), .ref (gad G 44), .int (nI (n)), .int (nI (rn)), .int (z), .int (bi true)]))) (fun c9 t => Hw G c9 t t.heap) (gA G)) 0 0 (gA G) := by
  refine en (by decide +kernel) (by first | exact Nat.le_of_ble_eq_true rfl | decide) ?_
  intro p e s m below meth cd ls hx hb hr hml hown hts hlocks hnm hw hl
  have hl : lv_has ls 1 [(0, .ref (gad G 32))] := hl
  have hX : Sw G s s.heap := hw.2.2.2.2.2
  have hS : va_S (gA G) s.heap s.heap [] := va_S.rf
  obtain ⟨H, hH⟩ : ∃ wz9, wz9 = s.heap := ⟨_, rfl⟩
  obtain ⟨locs, hlocs⟩ : ∃ wz9 : List Loc, wz9 = [] := ⟨_, rfl⟩
  have hw : Hw G c s H := by rw [hH]; exact hw
  have hS : va_S (gA G) s.heap H locs := by rw [hH, hlocs]; exact hS
  suffices hgo : W p l e ({ frames := 1, cells := 0, slots := 0, locals := 22 } : Room) s m (([.ref (gad G 32)] : List Value).toArray) below meth cd H locs 0 0 (MQ below (va_Qi (fun r (c9 : Nat → va_E) => r = nI n ∧ c9 = va_up (va_up (va_up (va_up c 35 (.inl (gI G, 132, .inl f))) 43 (.inl (gI G, 128, .inl rf))) 44 (.inl (gI G, 16, .inl rt))) 32 (.inr (9, [.ref (gad G 33), .ref (gad G 34), .ref (gad G 35), .int (nI n), .int (nI n1), .int z, .int hd, .int sd, .ref (gad G 36), .ref (gad G 37), .int (nI rn), .ref (gad G 38), .int (nI tn), .int fr, .int tto, .int tk, .int wo, .ref (gad G 39), .ref (gad G 40), .ref (gad G 41), .ref (gad G 42), .ref (gad G 43), .ref (gad G 44), .int (nI (n)), .int (nI (rn)), .int (z), .int (bi true)]))) (fun c9 t => Hw G c9 t t.heap) (gA G)) ([.ref (gad G 32)] : List Value).toArray s 0 0 (gA G)) (F0 m 0 ls []) by rw [hH, hlocs] at hgo; exact hgo
  refine lv_aload_n hx hb dX11_image_0 rfl (lv_at hl 0 rfl) ?_
  refine w_get (C := RX11) (T := TX11) (N := 27) 0 hx hb hts inX11 hown hw (by decide) o1 rfl (by decide) (hts _ tw_885) rfl dX11_image_1 ?_
  refine lv_aload_n hx hb dX11_image_4 rfl (lv_at hl 0 rfl) ?_
  refine w_get (C := RX11) (T := TX11) (N := 27) 2 hx hb hts inX11 hown hw (by decide) o1 rfl (by decide) (hts _ tw_887) rfl dX11_image_5 ?_
  refine cQv (rS (As := [_, _]) ⟨hx, hb, hml, hown, hts⟩ hw (k_X11_copies_132 l (by decide) (by decide) a1 a6 (by decide)) (cv_X11_copies hts tw_1302 rfl rfl ⟨Nat.le_of_ble_eq_true rfl, Nat.le_of_ble_eq_true rfl⟩) rfl hl.1 rfl (by first | exact Nat.le_of_ble_eq_true rfl | decide) dX11_image_8 ⟨Nat.zero_le _, Nat.zero_le _⟩) hw hS (fun w1 H locs hp8 hw hS => ?_)
  have o1_1 : w1 32 = .inr (9, [.ref (gad G 33), .ref (gad G 34), .ref (gad G 35), .int (nI n), .int (nI n1), .int z, .int hd, .int sd, .ref (gad G 36), .ref (gad G 37), .int (nI rn), .ref (gad G 38), .int (nI tn), .int fr, .int tto, .int tk, .int wo, .ref (gad G 39), .ref (gad G 40), .ref (gad G 41), .ref (gad G 42), .ref (gad G 43), .ref (gad G 44), .int (nI n2), .int (nI qn), .int iz, .int (bi im)]) := by rw [hp8]; exact (vu_e (by decide) o1)
  have a1_1 : w1 33 = .inl (gI G, 132, .inl f) := by rw [hp8]; exact (vu_e (by decide) a1)
  have a3_1 : w1 36 = .inl (gI G, 128, .inl rf) := by rw [hp8]; exact (vu_e (by decide) a3)
  have a4_1 : w1 37 = .inl (gI G, 16, .inl rt) := by rw [hp8]; exact (vu_e (by decide) a4)
  have a6_1 : w1 35 = .inl (gI G, 132, .inl f) := by rw [hp8]; exact vu_s
  have a7_1 : w1 43 = .inl (gI G, 128, .inl qf) := by rw [hp8]; exact (vu_e (by decide) a7)
  have a8_1 : w1 44 = .inl (gI G, 16, .inl qt) := by rw [hp8]; exact (vu_e (by decide) a8)
  refine lv_aload_n hx hb dX11_image_11 rfl (lv_at hl 0 rfl) ?_
  refine w_get (C := RX11) (T := TX11) (N := 27) 8 hx hb hts inX11 hown hw (by decide) o1_1 rfl (by decide) (hts _ tw_893) rfl dX11_image_12 ?_
  refine lv_aload_n hx hb dX11_image_15 rfl (lv_at hl 0 rfl) ?_
  refine w_get (C := RX11) (T := TX11) (N := 27) 21 hx hb hts inX11 hown hw (by decide) o1_1 rfl (by decide) (hts _ tw_906) rfl dX11_image_16 ?_
  refine cQv (rS (As := [_, _]) ⟨hx, hb, hml, hown, hts⟩ hw (k_X11_copies_128 l (by decide) (by decide) a3_1 a7_1 (by decide)) (cv_X11_copies hts tw_1302 rfl rfl ⟨Nat.le_of_ble_eq_true rfl, Nat.le_of_ble_eq_true rfl⟩) rfl hl.1 rfl (by first | exact Nat.le_of_ble_eq_true rfl | decide) dX11_image_19 ⟨Nat.zero_le _, Nat.zero_le _⟩) hw hS (fun w2 H locs hp19 hw hS => ?_)
  have o1_2 : w2 32 = .inr (9, [.ref (gad G 33), .ref (gad G 34), .ref (gad G 35), .int (nI n), .int (nI n1), .int z, .int hd, .int sd, .ref (gad G 36), .ref (gad G 37), .int (nI rn), .ref (gad G 38), .int (nI tn), .int fr, .int tto, .int tk, .int wo, .ref (gad G 39), .ref (gad G 40), .ref (gad G 41), .ref (gad G 42), .ref (gad G 43), .ref (gad G 44), .int (nI n2), .int (nI qn), .int iz, .int (bi im)]) := by rw [hp19]; exact (vu_e (by decide) o1_1)
  have a1_2 : w2 33 = .inl (gI G, 132, .inl f) := by rw [hp19]; exact (vu_e (by decide) a1_1)
  have a3_2 : w2 36 = .inl (gI G, 128, .inl rf) := by rw [hp19]; exact (vu_e (by decide) a3_1)
  have a4_2 : w2 37 = .inl (gI G, 16, .inl rt) := by rw [hp19]; exact (vu_e (by decide) a4_1)
  have a6_2 : w2 35 = .inl (gI G, 132, .inl f) := by rw [hp19]; exact (vu_e (by decide) a6_1)
  have a7_2 : w2 43 = .inl (gI G, 128, .inl rf) := by rw [hp19]; exact vu_s
  have a8_2 : w2 44 = .inl (gI G, 16, .inl qt) := by rw [hp19]; exact (vu_e (by decide) a8_1)
  refine lv_aload_n hx hb dX11_image_22 rfl (lv_at hl 0 rfl) ?_
  refine w_get (C := RX11) (T := TX11) (N := 27) 9 hx hb hts inX11 hown hw (by decide) o1_2 rfl (by decide) (hts _ tw_894) rfl dX11_image_23 ?_
  refine lv_aload_n hx hb dX11_image_26 rfl (lv_at hl 0 rfl) ?_
  refine w_get (C := RX11) (T := TX11) (N := 27) 22 hx hb hts inX11 hown hw (by decide) o1_2 rfl (by decide) (hts _ tw_907) rfl dX11_image_27 ?_
  refine cQv (rS (As := [_, _]) ⟨hx, hb, hml, hown, hts⟩ hw (k_X11_copies_16 l (by decide) (by decide) a4_2 a8_2 (by decide)) (cv_X11_copies hts tw_1302 rfl rfl ⟨Nat.le_of_ble_eq_true rfl, Nat.le_of_ble_eq_true rfl⟩) rfl hl.1 rfl (by first | exact Nat.le_of_ble_eq_true rfl | decide) dX11_image_30 ⟨Nat.zero_le _, Nat.zero_le _⟩) hw hS (fun w3 H locs hp30 hw hS => ?_)
  have o1_3 : w3 32 = .inr (9, [.ref (gad G 33), .ref (gad G 34), .ref (gad G 35), .int (nI n), .int (nI n1), .int z, .int hd, .int sd, .ref (gad G 36), .ref (gad G 37), .int (nI rn), .ref (gad G 38), .int (nI tn), .int fr, .int tto, .int tk, .int wo, .ref (gad G 39), .ref (gad G 40), .ref (gad G 41), .ref (gad G 42), .ref (gad G 43), .ref (gad G 44), .int (nI n2), .int (nI qn), .int iz, .int (bi im)]) := by rw [hp30]; exact (vu_e (by decide) o1_2)
  have a1_3 : w3 33 = .inl (gI G, 132, .inl f) := by rw [hp30]; exact (vu_e (by decide) a1_2)
  have a3_3 : w3 36 = .inl (gI G, 128, .inl rf) := by rw [hp30]; exact (vu_e (by decide) a3_2)
  have a4_3 : w3 37 = .inl (gI G, 16, .inl rt) := by rw [hp30]; exact (vu_e (by decide) a4_2)
  have a6_3 : w3 35 = .inl (gI G, 132, .inl f) := by rw [hp30]; exact (vu_e (by decide) a6_2)
  have a7_3 : w3 43 = .inl (gI G, 128, .inl rf) := by rw [hp30]; exact (vu_e (by decide) a7_2)
  have a8_3 : w3 44 = .inl (gI G, 16, .inl rt) := by rw [hp30]; exact vu_s
  refine lv_aload_n hx hb dX11_image_33 rfl (lv_at hl 0 rfl) ?_
  refine lv_aload_n hx hb dX11_image_34 rfl (lv_at hl 0 rfl) ?_
  refine w_get (C := RX11) (T := TX11) (N := 27) 3 hx hb hts inX11 hown hw (by decide) o1_3 rfl (by decide) (hts _ tw_888) rfl dX11_image_35 ?_
  refine w_put (C := RX11) (T := TX11) (N := 27) (v := .int (nI n)) 23 tyX11 hx hb hts inX11 tyX11_ok nmX11 hown hw hX hS (by decide) o1_3 rfl (by decide) (hts _ tw_908) rfl rfl (rfl) (rfl) (Nat.le_of_ble_eq_true rfl) dX11_image_38 (fun H locs hw hS => ?_)
  obtain ⟨w5, ew5⟩ : ∃ wz9 : Nat → va_E, wz9 = va_up w3 32 (.inr (9, [.ref (gad G 33), .ref (gad G 34), .ref (gad G 35), .int (nI n), .int (nI n1), .int z, .int hd, .int sd, .ref (gad G 36), .ref (gad G 37), .int (nI rn), .ref (gad G 38), .int (nI tn), .int fr, .int tto, .int tk, .int wo, .ref (gad G 39), .ref (gad G 40), .ref (gad G 41), .ref (gad G 42), .ref (gad G 43), .ref (gad G 44), .int (nI n), .int (nI qn), .int iz, .int (bi im)])) := ⟨_, rfl⟩
  have hw : Hw G w5 s H := by rw [ew5]; exact hw
  have o1_5 : w5 32 = .inr (9, [.ref (gad G 33), .ref (gad G 34), .ref (gad G 35), .int (nI n), .int (nI n1), .int z, .int hd, .int sd, .ref (gad G 36), .ref (gad G 37), .int (nI rn), .ref (gad G 38), .int (nI tn), .int fr, .int tto, .int tk, .int wo, .ref (gad G 39), .ref (gad G 40), .ref (gad G 41), .ref (gad G 42), .ref (gad G 43), .ref (gad G 44), .int (nI n), .int (nI qn), .int iz, .int (bi im)]) := by rw [ew5]; exact vu_s
  have a1_5 : w5 33 = .inl (gI G, 132, .inl f) := by rw [ew5]; exact vu_e (by decide) a1_3
  have a3_5 : w5 36 = .inl (gI G, 128, .inl rf) := by rw [ew5]; exact vu_e (by decide) a3_3
  have a4_5 : w5 37 = .inl (gI G, 16, .inl rt) := by rw [ew5]; exact vu_e (by decide) a4_3
  have a6_5 : w5 35 = .inl (gI G, 132, .inl f) := by rw [ew5]; exact vu_e (by decide) a6_3
  have a7_5 : w5 43 = .inl (gI G, 128, .inl rf) := by rw [ew5]; exact vu_e (by decide) a7_3
  have a8_5 : w5 44 = .inl (gI G, 16, .inl rt) := by rw [ew5]; exact vu_e (by decide) a8_3
  refine lv_aload_n hx hb dX11_image_41 rfl (lv_at hl 0 rfl) ?_
  refine lv_aload_n hx hb dX11_image_42 rfl (lv_at hl 0 rfl) ?_
  refine w_get (C := RX11) (T := TX11) (N := 27) 10 hx hb hts inX11 hown hw (by decide) o1_5 rfl (by decide) (hts _ tw_895) rfl dX11_image_43 ?_
  refine w_put (C := RX11) (T := TX11) (N := 27) (v := .int (nI rn)) 24 tyX11 hx hb hts inX11 tyX11_ok nmX11 hown hw hX hS (by decide) o1_5 rfl (by decide) (hts _ tw_909) rfl rfl (rfl) (rfl) (Nat.le_of_ble_eq_true rfl) dX11_image_46 (fun H locs hw hS => ?_)
  obtain ⟨w7, ew7⟩ : ∃ wz9 : Nat → va_E, wz9 = va_up w5 32 (.inr (9, [.ref (gad G 33), .ref (gad G 34), .ref (gad G 35), .int (nI n), .int (nI n1), .int z, .int hd, .int sd, .ref (gad G 36), .ref (gad G 37), .int (nI rn), .ref (gad G 38), .int (nI tn), .int fr, .int tto, .int tk, .int wo, .ref (gad G 39), .ref (gad G 40), .ref (gad G 41), .ref (gad G 42), .ref (gad G 43), .ref (gad G 44), .int (nI n), .int (nI rn), .int iz, .int (bi im)])) := ⟨_, rfl⟩
  have hw : Hw G w7 s H := by rw [ew7]; exact hw
  have o1_7 : w7 32 = .inr (9, [.ref (gad G 33), .ref (gad G 34), .ref (gad G 35), .int (nI n), .int (nI n1), .int z, .int hd, .int sd, .ref (gad G 36), .ref (gad G 37), .int (nI rn), .ref (gad G 38), .int (nI tn), .int fr, .int tto, .int tk, .int wo, .ref (gad G 39), .ref (gad G 40), .ref (gad G 41), .ref (gad G 42), .ref (gad G 43), .ref (gad G 44), .int (nI n), .int (nI rn), .int iz, .int (bi im)]) := by rw [ew7]; exact vu_s
  have a1_7 : w7 33 = .inl (gI G, 132, .inl f) := by rw [ew7]; exact vu_e (by decide) a1_5
  have a3_7 : w7 36 = .inl (gI G, 128, .inl rf) := by rw [ew7]; exact vu_e (by decide) a3_5
  have a4_7 : w7 37 = .inl (gI G, 16, .inl rt) := by rw [ew7]; exact vu_e (by decide) a4_5
  have a6_7 : w7 35 = .inl (gI G, 132, .inl f) := by rw [ew7]; exact vu_e (by decide) a6_5
  have a7_7 : w7 43 = .inl (gI G, 128, .inl rf) := by rw [ew7]; exact vu_e (by decide) a7_5
  have a8_7 : w7 44 = .inl (gI G, 16, .inl rt) := by rw [ew7]; exact vu_e (by decide) a8_5
  refine lv_aload_n hx hb dX11_image_49 rfl (lv_at hl 0 rfl) ?_
  refine lv_aload_n hx hb dX11_image_50 rfl (lv_at hl 0 rfl) ?_
  refine w_get (C := RX11) (T := TX11) (N := 27) 5 hx hb hts inX11 hown hw (by decide) o1_7 rfl (by decide) (hts _ tw_890) rfl dX11_image_51 ?_
  refine w_put (C := RX11) (T := TX11) (N := 27) (v := .int z) 25 tyX11 hx hb hts inX11 tyX11_ok nmX11 hown hw hX hS (by decide) o1_7 rfl (by decide) (hts _ tw_910) rfl rfl (rfl) (rfl) (Nat.le_of_ble_eq_true rfl) dX11_image_54 (fun H locs hw hS => ?_)
  obtain ⟨w9, ew9⟩ : ∃ wz9 : Nat → va_E, wz9 = va_up w7 32 (.inr (9, [.ref (gad G 33), .ref (gad G 34), .ref (gad G 35), .int (nI n), .int (nI n1), .int z, .int hd, .int sd, .ref (gad G 36), .ref (gad G 37), .int (nI rn), .ref (gad G 38), .int (nI tn), .int fr, .int tto, .int tk, .int wo, .ref (gad G 39), .ref (gad G 40), .ref (gad G 41), .ref (gad G 42), .ref (gad G 43), .ref (gad G 44), .int (nI n), .int (nI rn), .int z, .int (bi im)])) := ⟨_, rfl⟩
  have hw : Hw G w9 s H := by rw [ew9]; exact hw
  have o1_9 : w9 32 = .inr (9, [.ref (gad G 33), .ref (gad G 34), .ref (gad G 35), .int (nI n), .int (nI n1), .int z, .int hd, .int sd, .ref (gad G 36), .ref (gad G 37), .int (nI rn), .ref (gad G 38), .int (nI tn), .int fr, .int tto, .int tk, .int wo, .ref (gad G 39), .ref (gad G 40), .ref (gad G 41), .ref (gad G 42), .ref (gad G 43), .ref (gad G 44), .int (nI n), .int (nI rn), .int z, .int (bi im)]) := by rw [ew9]; exact vu_s
  have a1_9 : w9 33 = .inl (gI G, 132, .inl f) := by rw [ew9]; exact vu_e (by decide) a1_7
  have a3_9 : w9 36 = .inl (gI G, 128, .inl rf) := by rw [ew9]; exact vu_e (by decide) a3_7
  have a4_9 : w9 37 = .inl (gI G, 16, .inl rt) := by rw [ew9]; exact vu_e (by decide) a4_7
  have a6_9 : w9 35 = .inl (gI G, 132, .inl f) := by rw [ew9]; exact vu_e (by decide) a6_7
  have a7_9 : w9 43 = .inl (gI G, 128, .inl rf) := by rw [ew9]; exact vu_e (by decide) a7_7
  have a8_9 : w9 44 = .inl (gI G, 16, .inl rt) := by rw [ew9]; exact vu_e (by decide) a8_7
  refine lv_aload_n hx hb dX11_image_57 rfl (lv_at hl 0 rfl) ?_
  refine lv_iconst (v := 1) hx hb dX11_image_58 (by decide) ?_
  refine w_put (C := RX11) (T := TX11) (N := 27) (v := .int (bi true)) 26 tyX11 hx hb hts inX11 tyX11_ok nmX11 hown hw hX hS (by decide) o1_9 rfl (by decide) (hts _ tw_911) rfl rfl (rfl) (rfl) (Nat.le_of_ble_eq_true rfl) dX11_image_59 (fun H locs hw hS => ?_)
  obtain ⟨w11, ew11⟩ : ∃ wz9 : Nat → va_E, wz9 = va_up w9 32 (.inr (9, [.ref (gad G 33), .ref (gad G 34), .ref (gad G 35), .int (nI n), .int (nI n1), .int z, .int hd, .int sd, .ref (gad G 36), .ref (gad G 37), .int (nI rn), .ref (gad G 38), .int (nI tn), .int fr, .int tto, .int tk, .int wo, .ref (gad G 39), .ref (gad G 40), .ref (gad G 41), .ref (gad G 42), .ref (gad G 43), .ref (gad G 44), .int (nI n), .int (nI rn), .int z, .int (bi true)])) := ⟨_, rfl⟩
  have hw : Hw G w11 s H := by rw [ew11]; exact hw
  have o1_11 : w11 32 = .inr (9, [.ref (gad G 33), .ref (gad G 34), .ref (gad G 35), .int (nI n), .int (nI n1), .int z, .int hd, .int sd, .ref (gad G 36), .ref (gad G 37), .int (nI rn), .ref (gad G 38), .int (nI tn), .int fr, .int tto, .int tk, .int wo, .ref (gad G 39), .ref (gad G 40), .ref (gad G 41), .ref (gad G 42), .ref (gad G 43), .ref (gad G 44), .int (nI n), .int (nI rn), .int z, .int (bi true)]) := by rw [ew11]; exact vu_s
  have a1_11 : w11 33 = .inl (gI G, 132, .inl f) := by rw [ew11]; exact vu_e (by decide) a1_9
  have a3_11 : w11 36 = .inl (gI G, 128, .inl rf) := by rw [ew11]; exact vu_e (by decide) a3_9
  have a4_11 : w11 37 = .inl (gI G, 16, .inl rt) := by rw [ew11]; exact vu_e (by decide) a4_9
  have a6_11 : w11 35 = .inl (gI G, 132, .inl f) := by rw [ew11]; exact vu_e (by decide) a6_9
  have a7_11 : w11 43 = .inl (gI G, 128, .inl rf) := by rw [ew11]; exact vu_e (by decide) a7_9
  have a8_11 : w11 44 = .inl (gI G, 16, .inl rt) := by rw [ew11]; exact vu_e (by decide) a8_9
  refine lv_aload_n hx hb dX11_image_62 rfl (lv_at hl 0 rfl) ?_
  refine w_get (C := RX11) (T := TX11) (N := 27) 3 hx hb hts inX11 hown hw (by decide) o1_11 rfl (by decide) (hts _ tw_888) rfl dX11_image_63 ?_
  exact re_Q hx hb hr hlocks (rfl) hw hS dX11_image_66 (⟨rfl, by rw [ew11, ew9, ew7, ew5, hp30, hp19, hp8, up_up, up_up, up_up]⟩)
set_option maxHeartbeats 4000000 in
set_option maxRecDepth 100000 in
theorem k_X11_back (l : Launch) {G : GT} {c : Nat → va_E} {n n1 rn tn n2 qn : Nat} {z hd sd fr tto tk wo iz : Int32} {im : Bool} (o1 : c 32 = .inr (9, [.ref (gad G 33), .ref (gad G 34), .ref (gad G 35), .int (nI n), .int (nI n1), .int z, .int hd, .int sd, .ref (gad G 36), .ref (gad G 37), .int (nI rn), .ref (gad G 38), .int (nI tn), .int fr, .int tto, .int tk, .int wo, .ref (gad G 39), .ref (gad G 40), .ref (gad G 41), .ref (gad G 42), .ref (gad G 43), .ref (gad G 44), .int (nI n2), .int (nI qn), .int iz, .int (bi im)])) {f : Nat → Int32} (a1 : c 33 = .inl (gI G, 132, .inl f)) (hn : n ≤ 12) {rf : Nat → Int32} {rt : Nat → Int32} (a3 : c 36 = .inl (gI G, 128, .inl rf)) (a4 : c 37 = .inl (gI G, 16, .inl rt)) (hrn : rn ≤ 16) {f2 qf qt : Nat → Int32} (a6 : c 35 = .inl (gI G, 132, .inl f2)) (a7 : c 43 = .inl (gI G, 128, .inl qf)) (a8 : c 44 = .inl (gI G, 16, .inl qt))  : Met l yX11_back (wv yX11_back cX11_back 1 (some .int)) ({ frames := 1, cells := 0, slots := 0, locals := 22 } : Room) (va_Pc [.ref (gad G 32)] (fun U => Hw G c U U.heap)) (va_Qi (fun r (c9 : Nat → va_E) => (im = false ∧ r = -3 ∧ c9 = c) ∨ (im = true ∧ r = nI n2 ∧ c9 = va_up (va_up (va_up (va_up c 33 (.inl (gI G, 132, .inl f2))) 36 (.inl (gI G, 128, .inl qf))) 37 (.inl (gI G, 16, .inl qt))) 32 (.inr (9, [.ref (gad G 33), .ref (gad G 34), .ref (gad G 35), .int (nI (n2)), .int (nI n1), .int (iz), .int hd, .int sd, .ref (gad G 36), .ref (gad G 37), .int (nI (qn)), .ref (gad G 38), .int (nI tn), .int fr, .int tto, .int tk, .int wo, .ref (gad G 39), .ref (gad G 40), .ref (gad G 41), .ref (gad G 42), .ref (gad G 43), .ref (gad G 44), .int (nI n2), .int (nI qn), .int iz, .int (bi im)])))) (fun c9 t => Hw G c9 t t.heap) (gA G)) 0 0 (gA G) := by
  refine en (by decide +kernel) (by first | exact Nat.le_of_ble_eq_true rfl | decide) ?_
  intro p e s m below meth cd ls hx hb hr hml hown hts hlocks hnm hw hl
  have hl : lv_has ls 1 [(0, .ref (gad G 32))] := hl
  have hX : Sw G s s.heap := hw.2.2.2.2.2
  have hS : va_S (gA G) s.heap s.heap [] := va_S.rf
  obtain ⟨H, hH⟩ : ∃ wz9, wz9 = s.heap := ⟨_, rfl⟩
  obtain ⟨locs, hlocs⟩ : ∃ wz9 : List Loc, wz9 = [] := ⟨_, rfl⟩
  have hw : Hw G c s H := by rw [hH]; exact hw
  have hS : va_S (gA G) s.heap H locs := by rw [hH, hlocs]; exact hS
  suffices hgo : W p l e ({ frames := 1, cells := 0, slots := 0, locals := 22 } : Room) s m (([.ref (gad G 32)] : List Value).toArray) below meth cd H locs 0 0 (MQ below (va_Qi (fun r (c9 : Nat → va_E) => (im = false ∧ r = -3 ∧ c9 = c) ∨ (im = true ∧ r = nI n2 ∧ c9 = va_up (va_up (va_up (va_up c 33 (.inl (gI G, 132, .inl f2))) 36 (.inl (gI G, 128, .inl qf))) 37 (.inl (gI G, 16, .inl qt))) 32 (.inr (9, [.ref (gad G 33), .ref (gad G 34), .ref (gad G 35), .int (nI (n2)), .int (nI n1), .int (iz), .int hd, .int sd, .ref (gad G 36), .ref (gad G 37), .int (nI (qn)), .ref (gad G 38), .int (nI tn), .int fr, .int tto, .int tk, .int wo, .ref (gad G 39), .ref (gad G 40), .ref (gad G 41), .ref (gad G 42), .ref (gad G 43), .ref (gad G 44), .int (nI n2), .int (nI qn), .int iz, .int (bi im)])))) (fun c9 t => Hw G c9 t t.heap) (gA G)) ([.ref (gad G 32)] : List Value).toArray s 0 0 (gA G)) (F0 m 0 ls []) by rw [hH, hlocs] at hgo; exact hgo
  refine lv_aload_n hx hb dX11_back_0 rfl (lv_at hl 0 rfl) ?_
  refine w_get (C := RX11) (T := TX11) (N := 27) 26 hx hb hts inX11 hown hw (by decide) o1 rfl (by decide) (hts _ tw_911) rfl dX11_back_1 ?_
  refine zb_ne (tgt := 10) hx hb dX11_back_4 (by decide) (fun c4 => ?_) (fun c4 => ?_)
  · refine lv_aload_n hx hb dX11_back_10 rfl (lv_at hl 0 rfl) ?_
    refine w_get (C := RX11) (T := TX11) (N := 27) 2 hx hb hts inX11 hown hw (by decide) o1 rfl (by decide) (hts _ tw_887) rfl dX11_back_11 ?_
    refine lv_aload_n hx hb dX11_back_14 rfl (lv_at hl 0 rfl) ?_
    refine w_get (C := RX11) (T := TX11) (N := 27) 0 hx hb hts inX11 hown hw (by decide) o1 rfl (by decide) (hts _ tw_885) rfl dX11_back_15 ?_
    refine cQv (rS (As := [_, _]) ⟨hx, hb, hml, hown, hts⟩ hw (k_X11_copies_132 l (by decide) (by decide) a6 a1 (by decide)) (cv_X11_copies hts tw_1302 rfl rfl ⟨Nat.le_of_ble_eq_true rfl, Nat.le_of_ble_eq_true rfl⟩) rfl hl.1 rfl (by first | exact Nat.le_of_ble_eq_true rfl | decide) dX11_back_18 ⟨Nat.zero_le _, Nat.zero_le _⟩) hw hS (fun w1 H locs hp18 hw hS => ?_)
    have o1_1 : w1 32 = .inr (9, [.ref (gad G 33), .ref (gad G 34), .ref (gad G 35), .int (nI n), .int (nI n1), .int z, .int hd, .int sd, .ref (gad G 36), .ref (gad G 37), .int (nI rn), .ref (gad G 38), .int (nI tn), .int fr, .int tto, .int tk, .int wo, .ref (gad G 39), .ref (gad G 40), .ref (gad G 41), .ref (gad G 42), .ref (gad G 43), .ref (gad G 44), .int (nI n2), .int (nI qn), .int iz, .int (bi im)]) := by rw [hp18]; exact (vu_e (by decide) o1)
    have a1_1 : w1 33 = .inl (gI G, 132, .inl f2) := by rw [hp18]; exact vu_s
    have a3_1 : w1 36 = .inl (gI G, 128, .inl rf) := by rw [hp18]; exact (vu_e (by decide) a3)
    have a4_1 : w1 37 = .inl (gI G, 16, .inl rt) := by rw [hp18]; exact (vu_e (by decide) a4)
    have a6_1 : w1 35 = .inl (gI G, 132, .inl f2) := by rw [hp18]; exact (vu_e (by decide) a6)
    have a7_1 : w1 43 = .inl (gI G, 128, .inl qf) := by rw [hp18]; exact (vu_e (by decide) a7)
    have a8_1 : w1 44 = .inl (gI G, 16, .inl qt) := by rw [hp18]; exact (vu_e (by decide) a8)
    refine lv_aload_n hx hb dX11_back_21 rfl (lv_at hl 0 rfl) ?_
    refine w_get (C := RX11) (T := TX11) (N := 27) 21 hx hb hts inX11 hown hw (by decide) o1_1 rfl (by decide) (hts _ tw_906) rfl dX11_back_22 ?_
    refine lv_aload_n hx hb dX11_back_25 rfl (lv_at hl 0 rfl) ?_
    refine w_get (C := RX11) (T := TX11) (N := 27) 8 hx hb hts inX11 hown hw (by decide) o1_1 rfl (by decide) (hts _ tw_893) rfl dX11_back_26 ?_
    refine cQv (rS (As := [_, _]) ⟨hx, hb, hml, hown, hts⟩ hw (k_X11_copies_128 l (by decide) (by decide) a7_1 a3_1 (by decide)) (cv_X11_copies hts tw_1302 rfl rfl ⟨Nat.le_of_ble_eq_true rfl, Nat.le_of_ble_eq_true rfl⟩) rfl hl.1 rfl (by first | exact Nat.le_of_ble_eq_true rfl | decide) dX11_back_29 ⟨Nat.zero_le _, Nat.zero_le _⟩) hw hS (fun w2 H locs hp29 hw hS => ?_)
    have o1_2 : w2 32 = .inr (9, [.ref (gad G 33), .ref (gad G 34), .ref (gad G 35), .int (nI n), .int (nI n1), .int z, .int hd, .int sd, .ref (gad G 36), .ref (gad G 37), .int (nI rn), .ref (gad G 38), .int (nI tn), .int fr, .int tto, .int tk, .int wo, .ref (gad G 39), .ref (gad G 40), .ref (gad G 41), .ref (gad G 42), .ref (gad G 43), .ref (gad G 44), .int (nI n2), .int (nI qn), .int iz, .int (bi im)]) := by rw [hp29]; exact (vu_e (by decide) o1_1)
    have a1_2 : w2 33 = .inl (gI G, 132, .inl f2) := by rw [hp29]; exact (vu_e (by decide) a1_1)
    have a3_2 : w2 36 = .inl (gI G, 128, .inl qf) := by rw [hp29]; exact vu_s
    have a4_2 : w2 37 = .inl (gI G, 16, .inl rt) := by rw [hp29]; exact (vu_e (by decide) a4_1)
    have a6_2 : w2 35 = .inl (gI G, 132, .inl f2) := by rw [hp29]; exact (vu_e (by decide) a6_1)
    have a7_2 : w2 43 = .inl (gI G, 128, .inl qf) := by rw [hp29]; exact (vu_e (by decide) a7_1)
    have a8_2 : w2 44 = .inl (gI G, 16, .inl qt) := by rw [hp29]; exact (vu_e (by decide) a8_1)
    refine lv_aload_n hx hb dX11_back_32 rfl (lv_at hl 0 rfl) ?_
    refine w_get (C := RX11) (T := TX11) (N := 27) 22 hx hb hts inX11 hown hw (by decide) o1_2 rfl (by decide) (hts _ tw_907) rfl dX11_back_33 ?_
    refine lv_aload_n hx hb dX11_back_36 rfl (lv_at hl 0 rfl) ?_
    refine w_get (C := RX11) (T := TX11) (N := 27) 9 hx hb hts inX11 hown hw (by decide) o1_2 rfl (by decide) (hts _ tw_894) rfl dX11_back_37 ?_
    refine cQv (rS (As := [_, _]) ⟨hx, hb, hml, hown, hts⟩ hw (k_X11_copies_16 l (by decide) (by decide) a8_2 a4_2 (by decide)) (cv_X11_copies hts tw_1302 rfl rfl ⟨Nat.le_of_ble_eq_true rfl, Nat.le_of_ble_eq_true rfl⟩) rfl hl.1 rfl (by first | exact Nat.le_of_ble_eq_true rfl | decide) dX11_back_40 ⟨Nat.zero_le _, Nat.zero_le _⟩) hw hS (fun w3 H locs hp40 hw hS => ?_)
    have o1_3 : w3 32 = .inr (9, [.ref (gad G 33), .ref (gad G 34), .ref (gad G 35), .int (nI n), .int (nI n1), .int z, .int hd, .int sd, .ref (gad G 36), .ref (gad G 37), .int (nI rn), .ref (gad G 38), .int (nI tn), .int fr, .int tto, .int tk, .int wo, .ref (gad G 39), .ref (gad G 40), .ref (gad G 41), .ref (gad G 42), .ref (gad G 43), .ref (gad G 44), .int (nI n2), .int (nI qn), .int iz, .int (bi im)]) := by rw [hp40]; exact (vu_e (by decide) o1_2)
    have a1_3 : w3 33 = .inl (gI G, 132, .inl f2) := by rw [hp40]; exact (vu_e (by decide) a1_2)
    have a3_3 : w3 36 = .inl (gI G, 128, .inl qf) := by rw [hp40]; exact (vu_e (by decide) a3_2)
    have a4_3 : w3 37 = .inl (gI G, 16, .inl qt) := by rw [hp40]; exact vu_s
    have a6_3 : w3 35 = .inl (gI G, 132, .inl f2) := by rw [hp40]; exact (vu_e (by decide) a6_2)
    have a7_3 : w3 43 = .inl (gI G, 128, .inl qf) := by rw [hp40]; exact (vu_e (by decide) a7_2)
    have a8_3 : w3 44 = .inl (gI G, 16, .inl qt) := by rw [hp40]; exact (vu_e (by decide) a8_2)
    refine lv_aload_n hx hb dX11_back_43 rfl (lv_at hl 0 rfl) ?_
    refine lv_aload_n hx hb dX11_back_44 rfl (lv_at hl 0 rfl) ?_
    refine w_get (C := RX11) (T := TX11) (N := 27) 23 hx hb hts inX11 hown hw (by decide) o1_3 rfl (by decide) (hts _ tw_908) rfl dX11_back_45 ?_
    refine w_put (C := RX11) (T := TX11) (N := 27) (v := .int (nI n2)) 3 tyX11 hx hb hts inX11 tyX11_ok nmX11 hown hw hX hS (by decide) o1_3 rfl (by decide) (hts _ tw_888) rfl rfl (rfl) (rfl) (Nat.le_of_ble_eq_true rfl) dX11_back_48 (fun H locs hw hS => ?_)
    obtain ⟨w5, ew5⟩ : ∃ wz9 : Nat → va_E, wz9 = va_up w3 32 (.inr (9, [.ref (gad G 33), .ref (gad G 34), .ref (gad G 35), .int (nI n2), .int (nI n1), .int z, .int hd, .int sd, .ref (gad G 36), .ref (gad G 37), .int (nI rn), .ref (gad G 38), .int (nI tn), .int fr, .int tto, .int tk, .int wo, .ref (gad G 39), .ref (gad G 40), .ref (gad G 41), .ref (gad G 42), .ref (gad G 43), .ref (gad G 44), .int (nI n2), .int (nI qn), .int iz, .int (bi im)])) := ⟨_, rfl⟩
    have hw : Hw G w5 s H := by rw [ew5]; exact hw
    have o1_5 : w5 32 = .inr (9, [.ref (gad G 33), .ref (gad G 34), .ref (gad G 35), .int (nI n2), .int (nI n1), .int z, .int hd, .int sd, .ref (gad G 36), .ref (gad G 37), .int (nI rn), .ref (gad G 38), .int (nI tn), .int fr, .int tto, .int tk, .int wo, .ref (gad G 39), .ref (gad G 40), .ref (gad G 41), .ref (gad G 42), .ref (gad G 43), .ref (gad G 44), .int (nI n2), .int (nI qn), .int iz, .int (bi im)]) := by rw [ew5]; exact vu_s
    have a1_5 : w5 33 = .inl (gI G, 132, .inl f2) := by rw [ew5]; exact vu_e (by decide) a1_3
    have a3_5 : w5 36 = .inl (gI G, 128, .inl qf) := by rw [ew5]; exact vu_e (by decide) a3_3
    have a4_5 : w5 37 = .inl (gI G, 16, .inl qt) := by rw [ew5]; exact vu_e (by decide) a4_3
    have a6_5 : w5 35 = .inl (gI G, 132, .inl f2) := by rw [ew5]; exact vu_e (by decide) a6_3
    have a7_5 : w5 43 = .inl (gI G, 128, .inl qf) := by rw [ew5]; exact vu_e (by decide) a7_3
    have a8_5 : w5 44 = .inl (gI G, 16, .inl qt) := by rw [ew5]; exact vu_e (by decide) a8_3
    refine lv_aload_n hx hb dX11_back_51 rfl (lv_at hl 0 rfl) ?_
    refine lv_aload_n hx hb dX11_back_52 rfl (lv_at hl 0 rfl) ?_
    refine w_get (C := RX11) (T := TX11) (N := 27) 24 hx hb hts inX11 hown hw (by decide) o1_5 rfl (by decide) (hts _ tw_909) rfl dX11_back_53 ?_
    refine w_put (C := RX11) (T := TX11) (N := 27) (v := .int (nI qn)) 10 tyX11 hx hb hts inX11 tyX11_ok nmX11 hown hw hX hS (by decide) o1_5 rfl (by decide) (hts _ tw_895) rfl rfl (rfl) (rfl) (Nat.le_of_ble_eq_true rfl) dX11_back_56 (fun H locs hw hS => ?_)
    obtain ⟨w7, ew7⟩ : ∃ wz9 : Nat → va_E, wz9 = va_up w5 32 (.inr (9, [.ref (gad G 33), .ref (gad G 34), .ref (gad G 35), .int (nI n2), .int (nI n1), .int z, .int hd, .int sd, .ref (gad G 36), .ref (gad G 37), .int (nI qn), .ref (gad G 38), .int (nI tn), .int fr, .int tto, .int tk, .int wo, .ref (gad G 39), .ref (gad G 40), .ref (gad G 41), .ref (gad G 42), .ref (gad G 43), .ref (gad G 44), .int (nI n2), .int (nI qn), .int iz, .int (bi im)])) := ⟨_, rfl⟩
    have hw : Hw G w7 s H := by rw [ew7]; exact hw
    have o1_7 : w7 32 = .inr (9, [.ref (gad G 33), .ref (gad G 34), .ref (gad G 35), .int (nI n2), .int (nI n1), .int z, .int hd, .int sd, .ref (gad G 36), .ref (gad G 37), .int (nI qn), .ref (gad G 38), .int (nI tn), .int fr, .int tto, .int tk, .int wo, .ref (gad G 39), .ref (gad G 40), .ref (gad G 41), .ref (gad G 42), .ref (gad G 43), .ref (gad G 44), .int (nI n2), .int (nI qn), .int iz, .int (bi im)]) := by rw [ew7]; exact vu_s
    have a1_7 : w7 33 = .inl (gI G, 132, .inl f2) := by rw [ew7]; exact vu_e (by decide) a1_5
    have a3_7 : w7 36 = .inl (gI G, 128, .inl qf) := by rw [ew7]; exact vu_e (by decide) a3_5
    have a4_7 : w7 37 = .inl (gI G, 16, .inl qt) := by rw [ew7]; exact vu_e (by decide) a4_5
    have a6_7 : w7 35 = .inl (gI G, 132, .inl f2) := by rw [ew7]; exact vu_e (by decide) a6_5
    have a7_7 : w7 43 = .inl (gI G, 128, .inl qf) := by rw [ew7]; exact vu_e (by decide) a7_5
    have a8_7 : w7 44 = .inl (gI G, 16, .inl qt) := by rw [ew7]; exact vu_e (by decide) a8_5
    refine lv_aload_n hx hb dX11_back_59 rfl (lv_at hl 0 rfl) ?_
    refine lv_aload_n hx hb dX11_back_60 rfl (lv_at hl 0 rfl) ?_
    refine w_get (C := RX11) (T := TX11) (N := 27) 25 hx hb hts inX11 hown hw (by decide) o1_7 rfl (by decide) (hts _ tw_910) rfl dX11_back_61 ?_
    refine w_put (C := RX11) (T := TX11) (N := 27) (v := .int iz) 5 tyX11 hx hb hts inX11 tyX11_ok nmX11 hown hw hX hS (by decide) o1_7 rfl (by decide) (hts _ tw_890) rfl rfl (rfl) (rfl) (Nat.le_of_ble_eq_true rfl) dX11_back_64 (fun H locs hw hS => ?_)
    obtain ⟨w9, ew9⟩ : ∃ wz9 : Nat → va_E, wz9 = va_up w7 32 (.inr (9, [.ref (gad G 33), .ref (gad G 34), .ref (gad G 35), .int (nI n2), .int (nI n1), .int iz, .int hd, .int sd, .ref (gad G 36), .ref (gad G 37), .int (nI qn), .ref (gad G 38), .int (nI tn), .int fr, .int tto, .int tk, .int wo, .ref (gad G 39), .ref (gad G 40), .ref (gad G 41), .ref (gad G 42), .ref (gad G 43), .ref (gad G 44), .int (nI n2), .int (nI qn), .int iz, .int (bi im)])) := ⟨_, rfl⟩
    have hw : Hw G w9 s H := by rw [ew9]; exact hw
    have o1_9 : w9 32 = .inr (9, [.ref (gad G 33), .ref (gad G 34), .ref (gad G 35), .int (nI n2), .int (nI n1), .int iz, .int hd, .int sd, .ref (gad G 36), .ref (gad G 37), .int (nI qn), .ref (gad G 38), .int (nI tn), .int fr, .int tto, .int tk, .int wo, .ref (gad G 39), .ref (gad G 40), .ref (gad G 41), .ref (gad G 42), .ref (gad G 43), .ref (gad G 44), .int (nI n2), .int (nI qn), .int iz, .int (bi im)]) := by rw [ew9]; exact vu_s
    have a1_9 : w9 33 = .inl (gI G, 132, .inl f2) := by rw [ew9]; exact vu_e (by decide) a1_7
    have a3_9 : w9 36 = .inl (gI G, 128, .inl qf) := by rw [ew9]; exact vu_e (by decide) a3_7
    have a4_9 : w9 37 = .inl (gI G, 16, .inl qt) := by rw [ew9]; exact vu_e (by decide) a4_7
    have a6_9 : w9 35 = .inl (gI G, 132, .inl f2) := by rw [ew9]; exact vu_e (by decide) a6_7
    have a7_9 : w9 43 = .inl (gI G, 128, .inl qf) := by rw [ew9]; exact vu_e (by decide) a7_7
    have a8_9 : w9 44 = .inl (gI G, 16, .inl qt) := by rw [ew9]; exact vu_e (by decide) a8_7
    refine lv_aload_n hx hb dX11_back_67 rfl (lv_at hl 0 rfl) ?_
    refine w_get (C := RX11) (T := TX11) (N := 27) 3 hx hb hts inX11 hown hw (by decide) o1_9 rfl (by decide) (hts _ tw_888) rfl dX11_back_68 ?_
    exact re_Q hx hb hr hlocks (rfl) hw hS dX11_back_71 (Or.inr ⟨c4, rfl, by rw [ew9, ew7, ew5, hp40, hp29, hp18, up_up, up_up]⟩)
  · refine lv_bipush (v := (-3)) hx hb dX11_back_7 (by decide) ?_
    exact re_Q hx hb hr hlocks (rfl) hw hS dX11_back_9 (Or.inl ⟨c4, rfl, rfl⟩)
