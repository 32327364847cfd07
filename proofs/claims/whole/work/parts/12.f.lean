theorem allU_mono {P : Nat → Bool} {j : Nat} (h : allU P j = false) : ∀ n, j ≤ n → allU P n = false
  | 0, hn => by rw [show j = 0 by omega] at h; exact h
  | n + 1, hn => by
    by_cases e : j = n + 1
    · rw [← e]; exact h
    · rw [allU, allU_mono h n (by omega)]; rfl
theorem isW_b {tf : Nat → Int32} {tn k i : Nat} {w : Int32} (hw : w = nI i) (hi : i < 17) : isW (KK tf tn) (VV tf tn) k w w = (decide (tkK tf tn k = 1 ∧ tkP tf tn (k + 1) - tkF tf tn k = sxN.getD i 0) && allU (fun x => decide (tf (tkF tf tn k + x) = sxc i x)) (sxN.getD i 0)) := by
  rw [hw, isW_ref hi, hsB, ← Bool.and_assoc]
  congr 1
  by_cases h1 : tkK tf tn k = 1 <;> by_cases h2 : tkP tf tn (k + 1) - tkF tf tn k = sxN.getD i 0 <;> simp [h1, h2]
theorem tkF_P {tf : Nat → Int32} {tn k : Nat} : tkF tf tn k ≤ tkP tf tn (k + 1) ∧ tkP tf tn (k + 1) ≤ tn := ⟨(tT_le (tf := tf) (tkP_le (tf := tf) (tn := tn) k)).2.1, tkP_le (k + 1)⟩
theorem num_v {tf : Nat → Int32} {tn k : Nat} {a b : Int32} (hb : b < 1000) (h : nI (tkK tf tn k) = 2) : wn (wR tf tn k) a b = wn (VV tf tn k) a b ∧ (wn (wR tf tn k) a b = true → wR tf tn k = VV tf tn k) := by
  have h2 : tkK tf tn k = 2 := (nI_eq (b := 2) (by have := tkK_4 (tf := tf) (tn := tn) (k := k); omega) (by omega)).mp h
  obtain ⟨v, hv, e1, e2⟩ := tk2_rel h2
  rw [show VV tf tn k = tkV tf tn k from rfl, e1, e2]
  exact wn_cap hv hb
theorem no48 {K V : Nat → Int32} {k : Nat} (c6 : isW K V k 4 4 = false) (c19 : isW K V k 5 5 = false) (c32 : isW K V k 6 6 = false) (c45 : isW K V k 7 7 = false) (c58 : isW K V k 8 8 = false) : isW K V k 4 8 = false :=
  isW_no (a := 4) (b := 8) (by omega) (by omega) (fun t h1 h2 => by
    have : t = 4 ∨ t = 5 ∨ t = 6 ∨ t = 7 ∨ t = 8 := by omega
    rcases this with rfl | rfl | rfl | rfl | rfl
    · exact c6
    · exact c19
    · exact c32
    · exact c45
    · exact c58)

set_option maxHeartbeats 4000000 in
set_option maxRecDepth 100000 in
theorem k_X11_isWord (l : Launch) {G : GT} {c : Nat → va_E} {n n1 rn tn n2 qn : Nat} {z hd sd iz : Int32} {im : Bool} {tf : Nat → Int32} {k : Nat} (o1 : c 32 = .inr (9, [.ref (gad G 33), .ref (gad G 34), .ref (gad G 35), .int (nI (n)), .int (nI n1), .int z, .int hd, .int sd, .ref (gad G 36), .ref (gad G 37), .int (nI rn), .ref (gad G 38), .int (nI tn), .int (nI (tkF tf tn (k))), .int (nI (tkP tf tn (k + 1))), .int (nI (tkK tf tn (k))), .int (wR tf tn (k)), .ref (gad G 39), .ref (gad G 40), .ref (gad G 41), .ref (gad G 42), .ref (gad G 43), .ref (gad G 44), .int (nI n2), .int (nI qn), .int iz, .int (bi im)])) (t8 : c 38 = .inl (gI G, 120, .inl tf)) (htn : tn ≤ 120) {i : Nat} {w : Int32} (hi : i < 17) (hw9 : w = nI i) : Met l yX11_isWord (wv yX11_isWord cX11_isWord 4 (some .boolean)) ({ frames := 4, cells := 0, slots := 0, locals := 85 } : Room) (va_Pc [.ref (gad G 32), .ref (gK G i)] (fun U => Hw G c U U.heap)) (vp_Si (fun r => r = bi (isW (KK tf tn) (VV tf tn) k w w))) 0 0 (fun _ => False) := by
  refine en (by decide +kernel) (by first | exact Nat.le_of_ble_eq_true rfl | decide) ?_
  intro p e s m below meth cd ls hx hb hr hml hown hts hlocks hnm hw hl
  have hl : lv_has ls 4 [(0, .ref (gad G 32)), (1, .ref (gK G i))] := hl
  have hok := sx_ok i hi
  have hl8 := hok.1
  have hFT := tkF_P (tf := tf) (tn := tn) (k := k)
  have hk4 := tkK_4 (tf := tf) (tn := tn) (k := k)
  refine lv_aload_n hx hb dX11_isWord_0 rfl (lv_at hl 0 rfl) ?_
  refine w_get (C := RX11) (T := TX11) (N := 27) 15 hx hb hts inX11 hown hw (by decide) o1 rfl (by decide) (hts _ tw_900) rfl dX11_isWord_1 ?_
  refine lv_iconst (v := 1) hx hb dX11_isWord_4 (by decide) ?_
  refine lv_icmp_ne (tgt := 28) hx hb dX11_isWord_5 (by decide) (fun c5 => ?_) (fun c5 => ?_)
  · refine lv_iconst (v := 0) hx hb dX11_isWord_28 (by decide) ?_
    refine lv_istore_n (lv' := [(2, _), (0, _), (1, _)]) hx hb dX11_isWord_29 rfl hl (by decide) rfl (fun ls hl => ?_)
    refine lv_iconst (v := 0) hx hb dX11_isWord_30 (by decide) ?_
    refine lv_istore_n (lv' := [(3, _), (2, _), (0, _), (1, _)]) hx hb dX11_isWord_31 rfl hl (by decide) rfl (fun ls hl => ?_)
    have L32 : ∀ (N : Nat) (j : Nat) (b : Bool), (j + N = sxN.getD i 0) → (b = (decide (tkK tf tn k = 1 ∧ tkP tf tn (k + 1) - tkF tf tn k = sxN.getD i 0) && allU (fun x => decide (tf (tkF tf tn k + x) = sxc i x)) j)) → ∀ ls : Array Slot, lv_has ls 4 [(3, .int (nI j)), (2, .int (bi b)), (1, .ref (gK G i)), (0, .ref (gad G 32))] → W p l e ({ frames := 4, cells := 0, slots := 0, locals := 85 } : Room) s m (([.ref (gad G 32), .ref (gK G i)] : List Value).toArray) below meth cd s.heap [] 0 0 (MQ below (vp_Si (fun r => r = bi (isW (KK tf tn) (VV tf tn) k w w))) ([.ref (gad G 32), .ref (gK G i)] : List Value).toArray s 0 0 (fun _ => False)) (F0 m 32 ls []) := by
      intro N
      induction N with
      | zero =>
        intro j  b  hN hB ls hl
        have hjl : j = sxN.getD i 0 := by omega
        refine lv_iload_n hx hb dX11_isWord_32 rfl (lv_at hl 0 rfl) ?_
        refine lv_aload_n hx hb dX11_isWord_33 rfl (lv_at hl 2 rfl) ?_
        refine cSe (rVK (i := i) (As := []) ⟨hx, hb, hml, hown, hts⟩ hw (k_J0_length_8abf5 l hi) (cv_J0_length_8abf5 hts tw_1231 rfl rfl ⟨Nat.le_of_ble_eq_true rfl, Nat.le_of_ble_eq_true rfl⟩) (hi) rfl hl.1 rfl (by first | exact Nat.le_of_ble_eq_true rfl | decide) dX11_isWord_34 ⟨Nat.zero_le _, Nat.zero_le _⟩) ?_
        refine lv_icmp_ge (tgt := 75) hx hb dX11_isWord_37 (by decide) (fun c37 => ?_) (fun q => absurd (nI_le (by omega) (by omega)) q)
        refine lv_iload_n hx hb dX11_isWord_75 rfl (lv_at hl 1 rfl) ?_
        exact re_S hx hb hr hlocks (bi_n _) dX11_isWord_76 (congrArg bi (by rw [isW_b hw9 hi, hB, hjl]))
      | succ N ih =>
        intro j  b  hN hB ls hl
        refine lv_iload_n hx hb dX11_isWord_32 rfl (lv_at hl 0 rfl) ?_
        refine lv_aload_n hx hb dX11_isWord_33 rfl (lv_at hl 2 rfl) ?_
        refine cSe (rVK (i := i) (As := []) ⟨hx, hb, hml, hown, hts⟩ hw (k_J0_length_8abf5 l hi) (cv_J0_length_8abf5 hts tw_1231 rfl rfl ⟨Nat.le_of_ble_eq_true rfl, Nat.le_of_ble_eq_true rfl⟩) (hi) rfl hl.1 rfl (by first | exact Nat.le_of_ble_eq_true rfl | decide) dX11_isWord_34 ⟨Nat.zero_le _, Nat.zero_le _⟩) ?_
        refine lv_icmp_ge (tgt := 75) hx hb dX11_isWord_37 (by decide) (fun q => absurd q (nI_ge (by omega) (by omega))) (fun c37 => ?_)
        refine lv_iload_n hx hb dX11_isWord_40 rfl (lv_at hl 1 rfl) ?_
        refine zb_eq (tgt := 75) hx hb dX11_isWord_41 (by decide) (fun c41 => ?_) (fun c41 => ?_)
        · refine lv_iload_n hx hb dX11_isWord_75 rfl (lv_at hl 1 rfl) ?_
          exact re_S hx hb hr hlocks (bi_n _) dX11_isWord_76 (congrArg bi (by rw [isW_b hw9 hi, c41]; rw [c41] at hB; rcases Bool.and_eq_false_iff.mp hB.symm with q | q; (rw [q]; rfl); (rw [allU_mono q _ (by omega), Bool.and_false])))
        · rw [c41] at hB
          have hB2 := hB.symm
          rw [Bool.and_eq_true, decide_eq_true_eq] at hB2
          obtain ⟨⟨hb1, hb2⟩, hb3⟩ := hB2
          refine lv_aload_n hx hb dX11_isWord_44 rfl (lv_at hl 3 rfl) ?_
          refine w_get (C := RX11) (T := TX11) (N := 27) 11 hx hb hts inX11 hown hw (by decide) o1 rfl (by decide) (hts _ tw_896) rfl dX11_isWord_45 ?_
          refine lv_aload_n hx hb dX11_isWord_48 rfl (lv_at hl 3 rfl) ?_
          refine w_get (C := RX11) (T := TX11) (N := 27) 13 hx hb hts inX11 hown hw (by decide) o1 rfl (by decide) (hts _ tw_898) rfl dX11_isWord_49 ?_
          refine lv_iload_n hx hb dX11_isWord_52 rfl (lv_at hl 0 rfl) ?_
          refine lv_iadd hx hb dX11_isWord_53 ?_
          refine w_ialdN (j := tkF tf tn k + j) hx hb hw (by decide) t8 (nI_add _ j) (by omega) (by decide) dX11_isWord_54 ?_
          refine lv_aload_n hx hb dX11_isWord_55 rfl (lv_at hl 2 rfl) ?_
          refine lv_iload_n hx hb dX11_isWord_56 rfl (lv_at hl 0 rfl) ?_
          refine cSe (rVK (i := i) (As := [_]) ⟨hx, hb, hml, hown, hts⟩ hw (k_J0_charAt_5068e l hi (by omega)) (cv_J0_charAt_5068e hts tw_1232 rfl rfl ⟨Nat.le_of_ble_eq_true rfl, Nat.le_of_ble_eq_true rfl⟩) (hi) rfl hl.1 rfl (by first | exact Nat.le_of_ble_eq_true rfl | decide) dX11_isWord_57 ⟨Nat.zero_le _, Nat.zero_le _⟩) ?_
          refine lv_icmp_ne (tgt := 67) hx hb dX11_isWord_60 (by decide) (fun c60 => ?_) (fun c60 => ?_)
          · refine lv_iconst (v := 0) hx hb dX11_isWord_67 (by decide) ?_
            refine lv_istore_n (lv' := [(2, _), (3, _), (1, _), (0, _)]) hx hb dX11_isWord_68 rfl hl (by decide) rfl (fun ls hl => ?_)
            refine lv_iinc (v := nI (j + 1)) (lv' := [(3, _), (2, _), (1, _), (0, _)]) hx hb dX11_isWord_69 hl (k := 1) rfl (inc1 j) (by decide) rfl (fun ls hl => ?_)
            refine lv_goto (tgt := 32) hx hb dX11_isWord_72 (by decide) ?_
            exact ih (j + 1) false (by omega) (by rw [allU, decide_eq_true ⟨hb1, hb2⟩, hb3, decide_eq_false c60]; rfl) ls (lv_sub hl [0, 1, 2, 3] rfl)
          · skip
            refine lv_iconst (v := 1) hx hb dX11_isWord_63 (by decide) ?_
            refine lv_goto (tgt := 68) hx hb dX11_isWord_64 (by decide) ?_
            refine lv_istore_n (lv' := [(2, _), (3, _), (1, _), (0, _)]) hx hb dX11_isWord_68 rfl hl (by decide) rfl (fun ls hl => ?_)
            refine lv_iinc (v := nI (j + 1)) (lv' := [(3, _), (2, _), (1, _), (0, _)]) hx hb dX11_isWord_69 hl (k := 1) rfl (inc1 j) (by decide) rfl (fun ls hl => ?_)
            refine lv_goto (tgt := 32) hx hb dX11_isWord_72 (by decide) ?_
            exact ih (j + 1) true (by omega) (by rw [allU, decide_eq_true ⟨hb1, hb2⟩, hb3, decide_eq_true c60]; rfl) ls (lv_sub hl [0, 1, 2, 3] rfl)
    exact L32 (sxN.getD i 0) 0 false (by omega) (by rw [decide_eq_false (fun q => c5 (by rw [q.1]; rfl))]; rfl) ls (lv_sub hl [0, 1, 3, 2] rfl)
  · refine lv_aload_n hx hb dX11_isWord_8 rfl (lv_at hl 0 rfl) ?_
    refine w_get (C := RX11) (T := TX11) (N := 27) 14 hx hb hts inX11 hown hw (by decide) o1 rfl (by decide) (hts _ tw_899) rfl dX11_isWord_9 ?_
    refine lv_aload_n hx hb dX11_isWord_12 rfl (lv_at hl 0 rfl) ?_
    refine w_get (C := RX11) (T := TX11) (N := 27) 13 hx hb hts inX11 hown hw (by decide) o1 rfl (by decide) (hts _ tw_898) rfl dX11_isWord_13 ?_
    refine lv_isub hx hb dX11_isWord_16 ?_
    refine tp (y := nI ((tkP tf tn (k + 1)) - (tkF tf tn k))) (pk_sub hFT.1) ?_
    refine lv_aload_n hx hb dX11_isWord_17 rfl (lv_at hl 1 rfl) ?_
    refine cSe (rVK (i := i) (As := []) ⟨hx, hb, hml, hown, hts⟩ hw (k_J0_length_8abf5 l hi) (cv_J0_length_8abf5 hts tw_1231 rfl rfl ⟨Nat.le_of_ble_eq_true rfl, Nat.le_of_ble_eq_true rfl⟩) (hi) rfl hl.1 rfl (by first | exact Nat.le_of_ble_eq_true rfl | decide) dX11_isWord_18 ⟨Nat.zero_le _, Nat.zero_le _⟩) ?_
    refine lv_icmp_ne (tgt := 28) hx hb dX11_isWord_21 (by decide) (fun c21 => ?_) (fun c21 => ?_)
    · refine lv_iconst (v := 0) hx hb dX11_isWord_28 (by decide) ?_
      refine lv_istore_n (lv' := [(2, _), (0, _), (1, _)]) hx hb dX11_isWord_29 rfl hl (by decide) rfl (fun ls hl => ?_)
      refine lv_iconst (v := 0) hx hb dX11_isWord_30 (by decide) ?_
      refine lv_istore_n (lv' := [(3, _), (2, _), (0, _), (1, _)]) hx hb dX11_isWord_31 rfl hl (by decide) rfl (fun ls hl => ?_)
      have L32 : ∀ (N : Nat) (j : Nat) (b : Bool), (j + N = sxN.getD i 0) → (b = (decide (tkK tf tn k = 1 ∧ tkP tf tn (k + 1) - tkF tf tn k = sxN.getD i 0) && allU (fun x => decide (tf (tkF tf tn k + x) = sxc i x)) j)) → ∀ ls : Array Slot, lv_has ls 4 [(3, .int (nI j)), (2, .int (bi b)), (1, .ref (gK G i)), (0, .ref (gad G 32))] → W p l e ({ frames := 4, cells := 0, slots := 0, locals := 85 } : Room) s m (([.ref (gad G 32), .ref (gK G i)] : List Value).toArray) below meth cd s.heap [] 0 0 (MQ below (vp_Si (fun r => r = bi (isW (KK tf tn) (VV tf tn) k w w))) ([.ref (gad G 32), .ref (gK G i)] : List Value).toArray s 0 0 (fun _ => False)) (F0 m 32 ls []) := by
        intro N
        induction N with
        | zero =>
          intro j  b  hN hB ls hl
          have hjl : j = sxN.getD i 0 := by omega
          refine lv_iload_n hx hb dX11_isWord_32 rfl (lv_at hl 0 rfl) ?_
          refine lv_aload_n hx hb dX11_isWord_33 rfl (lv_at hl 2 rfl) ?_
          refine cSe (rVK (i := i) (As := []) ⟨hx, hb, hml, hown, hts⟩ hw (k_J0_length_8abf5 l hi) (cv_J0_length_8abf5 hts tw_1231 rfl rfl ⟨Nat.le_of_ble_eq_true rfl, Nat.le_of_ble_eq_true rfl⟩) (hi) rfl hl.1 rfl (by first | exact Nat.le_of_ble_eq_true rfl | decide) dX11_isWord_34 ⟨Nat.zero_le _, Nat.zero_le _⟩) ?_
          refine lv_icmp_ge (tgt := 75) hx hb dX11_isWord_37 (by decide) (fun c37 => ?_) (fun q => absurd (nI_le (by omega) (by omega)) q)
          refine lv_iload_n hx hb dX11_isWord_75 rfl (lv_at hl 1 rfl) ?_
          exact re_S hx hb hr hlocks (bi_n _) dX11_isWord_76 (congrArg bi (by rw [isW_b hw9 hi, hB, hjl]))
        | succ N ih =>
          intro j  b  hN hB ls hl
          refine lv_iload_n hx hb dX11_isWord_32 rfl (lv_at hl 0 rfl) ?_
          refine lv_aload_n hx hb dX11_isWord_33 rfl (lv_at hl 2 rfl) ?_
          refine cSe (rVK (i := i) (As := []) ⟨hx, hb, hml, hown, hts⟩ hw (k_J0_length_8abf5 l hi) (cv_J0_length_8abf5 hts tw_1231 rfl rfl ⟨Nat.le_of_ble_eq_true rfl, Nat.le_of_ble_eq_true rfl⟩) (hi) rfl hl.1 rfl (by first | exact Nat.le_of_ble_eq_true rfl | decide) dX11_isWord_34 ⟨Nat.zero_le _, Nat.zero_le _⟩) ?_
          refine lv_icmp_ge (tgt := 75) hx hb dX11_isWord_37 (by decide) (fun q => absurd q (nI_ge (by omega) (by omega))) (fun c37 => ?_)
          refine lv_iload_n hx hb dX11_isWord_40 rfl (lv_at hl 1 rfl) ?_
          refine zb_eq (tgt := 75) hx hb dX11_isWord_41 (by decide) (fun c41 => ?_) (fun c41 => ?_)
          · refine lv_iload_n hx hb dX11_isWord_75 rfl (lv_at hl 1 rfl) ?_
            exact re_S hx hb hr hlocks (bi_n _) dX11_isWord_76 (congrArg bi (by rw [isW_b hw9 hi, c41]; rw [c41] at hB; rcases Bool.and_eq_false_iff.mp hB.symm with q | q; (rw [q]; rfl); (rw [allU_mono q _ (by omega), Bool.and_false])))
          · rw [c41] at hB
            have hB2 := hB.symm
            rw [Bool.and_eq_true, decide_eq_true_eq] at hB2
            obtain ⟨⟨hb1, hb2⟩, hb3⟩ := hB2
            refine lv_aload_n hx hb dX11_isWord_44 rfl (lv_at hl 3 rfl) ?_
            refine w_get (C := RX11) (T := TX11) (N := 27) 11 hx hb hts inX11 hown hw (by decide) o1 rfl (by decide) (hts _ tw_896) rfl dX11_isWord_45 ?_
            refine lv_aload_n hx hb dX11_isWord_48 rfl (lv_at hl 3 rfl) ?_
            refine w_get (C := RX11) (T := TX11) (N := 27) 13 hx hb hts inX11 hown hw (by decide) o1 rfl (by decide) (hts _ tw_898) rfl dX11_isWord_49 ?_
            refine lv_iload_n hx hb dX11_isWord_52 rfl (lv_at hl 0 rfl) ?_
            refine lv_iadd hx hb dX11_isWord_53 ?_
            refine w_ialdN (j := tkF tf tn k + j) hx hb hw (by decide) t8 (nI_add _ j) (by omega) (by decide) dX11_isWord_54 ?_
            refine lv_aload_n hx hb dX11_isWord_55 rfl (lv_at hl 2 rfl) ?_
            refine lv_iload_n hx hb dX11_isWord_56 rfl (lv_at hl 0 rfl) ?_
            refine cSe (rVK (i := i) (As := [_]) ⟨hx, hb, hml, hown, hts⟩ hw (k_J0_charAt_5068e l hi (by omega)) (cv_J0_charAt_5068e hts tw_1232 rfl rfl ⟨Nat.le_of_ble_eq_true rfl, Nat.le_of_ble_eq_true rfl⟩) (hi) rfl hl.1 rfl (by first | exact Nat.le_of_ble_eq_true rfl | decide) dX11_isWord_57 ⟨Nat.zero_le _, Nat.zero_le _⟩) ?_
            refine lv_icmp_ne (tgt := 67) hx hb dX11_isWord_60 (by decide) (fun c60 => ?_) (fun c60 => ?_)
            · refine lv_iconst (v := 0) hx hb dX11_isWord_67 (by decide) ?_
              refine lv_istore_n (lv' := [(2, _), (3, _), (1, _), (0, _)]) hx hb dX11_isWord_68 rfl hl (by decide) rfl (fun ls hl => ?_)
              refine lv_iinc (v := nI (j + 1)) (lv' := [(3, _), (2, _), (1, _), (0, _)]) hx hb dX11_isWord_69 hl (k := 1) rfl (inc1 j) (by decide) rfl (fun ls hl => ?_)
              refine lv_goto (tgt := 32) hx hb dX11_isWord_72 (by decide) ?_
              exact ih (j + 1) false (by omega) (by rw [allU, decide_eq_true ⟨hb1, hb2⟩, hb3, decide_eq_false c60]; rfl) ls (lv_sub hl [0, 1, 2, 3] rfl)
            · skip
              refine lv_iconst (v := 1) hx hb dX11_isWord_63 (by decide) ?_
              refine lv_goto (tgt := 68) hx hb dX11_isWord_64 (by decide) ?_
              refine lv_istore_n (lv' := [(2, _), (3, _), (1, _), (0, _)]) hx hb dX11_isWord_68 rfl hl (by decide) rfl (fun ls hl => ?_)
              refine lv_iinc (v := nI (j + 1)) (lv' := [(3, _), (2, _), (1, _), (0, _)]) hx hb dX11_isWord_69 hl (k := 1) rfl (inc1 j) (by decide) rfl (fun ls hl => ?_)
              refine lv_goto (tgt := 32) hx hb dX11_isWord_72 (by decide) ?_
              exact ih (j + 1) true (by omega) (by rw [allU, decide_eq_true ⟨hb1, hb2⟩, hb3, decide_eq_true c60]; rfl) ls (lv_sub hl [0, 1, 2, 3] rfl)
      exact L32 (sxN.getD i 0) 0 false (by omega) (by rw [decide_eq_false (fun q => c21 (by rw [q.2]))]; rfl) ls (lv_sub hl [0, 1, 3, 2] rfl)
    · skip
      refine lv_iconst (v := 1) hx hb dX11_isWord_24 (by decide) ?_
      refine lv_goto (tgt := 29) hx hb dX11_isWord_25 (by decide) ?_
      refine lv_istore_n (lv' := [(2, _), (0, _), (1, _)]) hx hb dX11_isWord_29 rfl hl (by decide) rfl (fun ls hl => ?_)
      refine lv_iconst (v := 0) hx hb dX11_isWord_30 (by decide) ?_
      refine lv_istore_n (lv' := [(3, _), (2, _), (0, _), (1, _)]) hx hb dX11_isWord_31 rfl hl (by decide) rfl (fun ls hl => ?_)
      have L32 : ∀ (N : Nat) (j : Nat) (b : Bool), (j + N = sxN.getD i 0) → (b = (decide (tkK tf tn k = 1 ∧ tkP tf tn (k + 1) - tkF tf tn k = sxN.getD i 0) && allU (fun x => decide (tf (tkF tf tn k + x) = sxc i x)) j)) → ∀ ls : Array Slot, lv_has ls 4 [(3, .int (nI j)), (2, .int (bi b)), (1, .ref (gK G i)), (0, .ref (gad G 32))] → W p l e ({ frames := 4, cells := 0, slots := 0, locals := 85 } : Room) s m (([.ref (gad G 32), .ref (gK G i)] : List Value).toArray) below meth cd s.heap [] 0 0 (MQ below (vp_Si (fun r => r = bi (isW (KK tf tn) (VV tf tn) k w w))) ([.ref (gad G 32), .ref (gK G i)] : List Value).toArray s 0 0 (fun _ => False)) (F0 m 32 ls []) := by
        intro N
        induction N with
        | zero =>
          intro j  b  hN hB ls hl
          have hjl : j = sxN.getD i 0 := by omega
          refine lv_iload_n hx hb dX11_isWord_32 rfl (lv_at hl 0 rfl) ?_
          refine lv_aload_n hx hb dX11_isWord_33 rfl (lv_at hl 2 rfl) ?_
          refine cSe (rVK (i := i) (As := []) ⟨hx, hb, hml, hown, hts⟩ hw (k_J0_length_8abf5 l hi) (cv_J0_length_8abf5 hts tw_1231 rfl rfl ⟨Nat.le_of_ble_eq_true rfl, Nat.le_of_ble_eq_true rfl⟩) (hi) rfl hl.1 rfl (by first | exact Nat.le_of_ble_eq_true rfl | decide) dX11_isWord_34 ⟨Nat.zero_le _, Nat.zero_le _⟩) ?_
          refine lv_icmp_ge (tgt := 75) hx hb dX11_isWord_37 (by decide) (fun c37 => ?_) (fun q => absurd (nI_le (by omega) (by omega)) q)
          refine lv_iload_n hx hb dX11_isWord_75 rfl (lv_at hl 1 rfl) ?_
          exact re_S hx hb hr hlocks (bi_n _) dX11_isWord_76 (congrArg bi (by rw [isW_b hw9 hi, hB, hjl]))
        | succ N ih =>
          intro j  b  hN hB ls hl
          refine lv_iload_n hx hb dX11_isWord_32 rfl (lv_at hl 0 rfl) ?_
          refine lv_aload_n hx hb dX11_isWord_33 rfl (lv_at hl 2 rfl) ?_
          refine cSe (rVK (i := i) (As := []) ⟨hx, hb, hml, hown, hts⟩ hw (k_J0_length_8abf5 l hi) (cv_J0_length_8abf5 hts tw_1231 rfl rfl ⟨Nat.le_of_ble_eq_true rfl, Nat.le_of_ble_eq_true rfl⟩) (hi) rfl hl.1 rfl (by first | exact Nat.le_of_ble_eq_true rfl | decide) dX11_isWord_34 ⟨Nat.zero_le _, Nat.zero_le _⟩) ?_
          refine lv_icmp_ge (tgt := 75) hx hb dX11_isWord_37 (by decide) (fun q => absurd q (nI_ge (by omega) (by omega))) (fun c37 => ?_)
          refine lv_iload_n hx hb dX11_isWord_40 rfl (lv_at hl 1 rfl) ?_
          refine zb_eq (tgt := 75) hx hb dX11_isWord_41 (by decide) (fun c41 => ?_) (fun c41 => ?_)
          · refine lv_iload_n hx hb dX11_isWord_75 rfl (lv_at hl 1 rfl) ?_
            exact re_S hx hb hr hlocks (bi_n _) dX11_isWord_76 (congrArg bi (by rw [isW_b hw9 hi, c41]; rw [c41] at hB; rcases Bool.and_eq_false_iff.mp hB.symm with q | q; (rw [q]; rfl); (rw [allU_mono q _ (by omega), Bool.and_false])))
          · rw [c41] at hB
            have hB2 := hB.symm
            rw [Bool.and_eq_true, decide_eq_true_eq] at hB2
            obtain ⟨⟨hb1, hb2⟩, hb3⟩ := hB2
            refine lv_aload_n hx hb dX11_isWord_44 rfl (lv_at hl 3 rfl) ?_
            refine w_get (C := RX11) (T := TX11) (N := 27) 11 hx hb hts inX11 hown hw (by decide) o1 rfl (by decide) (hts _ tw_896) rfl dX11_isWord_45 ?_
            refine lv_aload_n hx hb dX11_isWord_48 rfl (lv_at hl 3 rfl) ?_
            refine w_get (C := RX11) (T := TX11) (N := 27) 13 hx hb hts inX11 hown hw (by decide) o1 rfl (by decide) (hts _ tw_898) rfl dX11_isWord_49 ?_
            refine lv_iload_n hx hb dX11_isWord_52 rfl (lv_at hl 0 rfl) ?_
            refine lv_iadd hx hb dX11_isWord_53 ?_
            refine w_ialdN (j := tkF tf tn k + j) hx hb hw (by decide) t8 (nI_add _ j) (by omega) (by decide) dX11_isWord_54 ?_
            refine lv_aload_n hx hb dX11_isWord_55 rfl (lv_at hl 2 rfl) ?_
            refine lv_iload_n hx hb dX11_isWord_56 rfl (lv_at hl 0 rfl) ?_
            refine cSe (rVK (i := i) (As := [_]) ⟨hx, hb, hml, hown, hts⟩ hw (k_J0_charAt_5068e l hi (by omega)) (cv_J0_charAt_5068e hts tw_1232 rfl rfl ⟨Nat.le_of_ble_eq_true rfl, Nat.le_of_ble_eq_true rfl⟩) (hi) rfl hl.1 rfl (by first | exact Nat.le_of_ble_eq_true rfl | decide) dX11_isWord_57 ⟨Nat.zero_le _, Nat.zero_le _⟩) ?_
            refine lv_icmp_ne (tgt := 67) hx hb dX11_isWord_60 (by decide) (fun c60 => ?_) (fun c60 => ?_)
            · refine lv_iconst (v := 0) hx hb dX11_isWord_67 (by decide) ?_
              refine lv_istore_n (lv' := [(2, _), (3, _), (1, _), (0, _)]) hx hb dX11_isWord_68 rfl hl (by decide) rfl (fun ls hl => ?_)
              refine lv_iinc (v := nI (j + 1)) (lv' := [(3, _), (2, _), (1, _), (0, _)]) hx hb dX11_isWord_69 hl (k := 1) rfl (inc1 j) (by decide) rfl (fun ls hl => ?_)
              refine lv_goto (tgt := 32) hx hb dX11_isWord_72 (by decide) ?_
              exact ih (j + 1) false (by omega) (by rw [allU, decide_eq_true ⟨hb1, hb2⟩, hb3, decide_eq_false c60]; rfl) ls (lv_sub hl [0, 1, 2, 3] rfl)
            · skip
              refine lv_iconst (v := 1) hx hb dX11_isWord_63 (by decide) ?_
              refine lv_goto (tgt := 68) hx hb dX11_isWord_64 (by decide) ?_
              refine lv_istore_n (lv' := [(2, _), (3, _), (1, _), (0, _)]) hx hb dX11_isWord_68 rfl hl (by decide) rfl (fun ls hl => ?_)
              refine lv_iinc (v := nI (j + 1)) (lv' := [(3, _), (2, _), (1, _), (0, _)]) hx hb dX11_isWord_69 hl (k := 1) rfl (inc1 j) (by decide) rfl (fun ls hl => ?_)
              refine lv_goto (tgt := 32) hx hb dX11_isWord_72 (by decide) ?_
              exact ih (j + 1) true (by omega) (by rw [allU, decide_eq_true ⟨hb1, hb2⟩, hb3, decide_eq_true c60]; rfl) ls (lv_sub hl [0, 1, 2, 3] rfl)
      exact L32 (sxN.getD i 0) 0 true (by omega) (by rw [decide_eq_true ⟨(nI_eq (b := 1) (by omega) (by omega)).mp c5, (nI_eq (by omega) (by omega)).mp c21⟩]; rfl) ls (lv_sub hl [0, 1, 3, 2] rfl)
set_option maxHeartbeats 4000000 in
set_option maxRecDepth 100000 in
theorem k_X11_takes (l : Launch) {G : GT} {c : Nat → va_E} {n n1 rn tn n2 qn : Nat} {z hd sd iz : Int32} {im : Bool} {tf : Nat → Int32} {k : Nat} (o1 : c 32 = .inr (9, [.ref (gad G 33), .ref (gad G 34), .ref (gad G 35), .int (nI (n)), .int (nI n1), .int z, .int hd, .int sd, .ref (gad G 36), .ref (gad G 37), .int (nI rn), .ref (gad G 38), .int (nI tn), .int (nI (tkF tf tn (k))), .int (nI (tkP tf tn (k + 1))), .int (nI (tkK tf tn (k))), .int (wR tf tn (k)), .ref (gad G 39), .ref (gad G 40), .ref (gad G 41), .ref (gad G 42), .ref (gad G 43), .ref (gad G 44), .int (nI n2), .int (nI qn), .int iz, .int (bi im)])) (t8 : c 38 = .inl (gI G, 120, .inl tf)) (htn : tn ≤ 120) {f : Nat → Int32} (a1 : c 33 = .inl (gI G, 132, .inl f)) (hn : n ≤ 12) {i : Nat} {w : Int32} (hi : i < 17) (hw9 : w = nI i) : Met l yX11_takes (wv yX11_takes cX11_takes 3 (some .boolean)) ({ frames := 5, cells := 0, slots := 0, locals := 108 } : Room) (va_Pc [.ref (gad G 32), .ref (gK G i)] (fun U => Hw G c U U.heap)) (va_Qi (fun r (c9 : Nat → va_E) => ∃ (b9 : Bool) (k9 : Nat) (f9 : Nat → Int32), tW (KK tf tn) (VV tf tn) w k f = (b9, k9, f9) ∧ r = bi b9 ∧ c9 = D2 33 32 c (.inl (gI G, 132, .inl f9)) (.inr (9, [.ref (gad G 33), .ref (gad G 34), .ref (gad G 35), .int (nI (n)), .int (nI n1), .int z, .int hd, .int sd, .ref (gad G 36), .ref (gad G 37), .int (nI rn), .ref (gad G 38), .int (nI tn), .int (nI (tkF tf tn (k9))), .int (nI (tkP tf tn (k9 + 1))), .int (nI (tkK tf tn (k9))), .int (wR tf tn (k9)), .ref (gad G 39), .ref (gad G 40), .ref (gad G 41), .ref (gad G 42), .ref (gad G 43), .ref (gad G 44), .int (nI n2), .int (nI qn), .int iz, .int (bi im)]))) (fun c9 t => Hw G c9 t t.heap) (gA G)) 0 0 (gA G) := by
  refine en (by decide +kernel) (by first | exact Nat.le_of_ble_eq_true rfl | decide) ?_
  intro p e s m below meth cd ls hx hb hr hml hown hts hlocks hnm hw hl
  have hl : lv_has ls 3 [(0, .ref (gad G 32)), (1, .ref (gK G i))] := hl
  have hX : Sw G s s.heap := hw.2.2.2.2.2
  have hS : va_S (gA G) s.heap s.heap [] := va_S.rf
  obtain ⟨H, hH⟩ : ∃ wz9, wz9 = s.heap := ⟨_, rfl⟩
  obtain ⟨locs, hlocs⟩ : ∃ wz9 : List Loc, wz9 = [] := ⟨_, rfl⟩
  have hw : Hw G c s H := by rw [hH]; exact hw
  have hS : va_S (gA G) s.heap H locs := by rw [hH, hlocs]; exact hS
  suffices hgo : W p l e ({ frames := 5, cells := 0, slots := 0, locals := 108 } : Room) s m (([.ref (gad G 32), .ref (gK G i)] : List Value).toArray) below meth cd H locs 0 0 (MQ below (va_Qi (fun r (c9 : Nat → va_E) => ∃ (b9 : Bool) (k9 : Nat) (f9 : Nat → Int32), tW (KK tf tn) (VV tf tn) w k f = (b9, k9, f9) ∧ r = bi b9 ∧ c9 = D2 33 32 c (.inl (gI G, 132, .inl f9)) (.inr (9, [.ref (gad G 33), .ref (gad G 34), .ref (gad G 35), .int (nI (n)), .int (nI n1), .int z, .int hd, .int sd, .ref (gad G 36), .ref (gad G 37), .int (nI rn), .ref (gad G 38), .int (nI tn), .int (nI (tkF tf tn (k9))), .int (nI (tkP tf tn (k9 + 1))), .int (nI (tkK tf tn (k9))), .int (wR tf tn (k9)), .ref (gad G 39), .ref (gad G 40), .ref (gad G 41), .ref (gad G 42), .ref (gad G 43), .ref (gad G 44), .int (nI n2), .int (nI qn), .int iz, .int (bi im)]))) (fun c9 t => Hw G c9 t t.heap) (gA G)) ([.ref (gad G 32), .ref (gK G i)] : List Value).toArray s 0 0 (gA G)) (F0 m 0 ls []) by rw [hH, hlocs] at hgo; exact hgo
  have hc : c = D2 33 32 c (.inl (gI G, 132, .inl f)) (.inr (9, [.ref (gad G 33), .ref (gad G 34), .ref (gad G 35), .int (nI (n)), .int (nI n1), .int z, .int hd, .int sd, .ref (gad G 36), .ref (gad G 37), .int (nI rn), .ref (gad G 38), .int (nI tn), .int (nI (tkF tf tn (k))), .int (nI (tkP tf tn (k + 1))), .int (nI (tkK tf tn (k))), .int (wR tf tn (k)), .ref (gad G 39), .ref (gad G 40), .ref (gad G 41), .ref (gad G 42), .ref (gad G 43), .ref (gad G 44), .int (nI n2), .int (nI qn), .int iz, .int (bi im)])) := D2_id a1 o1
  refine lv_aload_n hx hb dX11_takes_0 rfl (lv_at hl 0 rfl) ?_
  refine lv_aload_n hx hb dX11_takes_1 rfl (lv_at hl 1 rfl) ?_
  refine cSe (rV (As := [_]) ⟨hx, hb, hml, hown, hts⟩ hw (k_X11_isWord l o1 t8 htn hi hw9) (cv_X11_isWord hts tw_1227 rfl rfl ⟨Nat.le_of_ble_eq_true rfl, Nat.le_of_ble_eq_true rfl⟩) (by decide) o1 rfl rfl hl.1 rfl (by first | exact Nat.le_of_ble_eq_true rfl | decide) dX11_takes_2 ⟨Nat.zero_le _, Nat.zero_le _⟩) ?_
  refine lv_istore_n (lv' := [(2, _), (0, _), (1, _)]) hx hb dX11_takes_5 rfl hl (by decide) rfl (fun ls hl => ?_)
  refine lv_iload_n hx hb dX11_takes_6 rfl (lv_at hl 0 rfl) ?_
  refine zb_eq (tgt := 14) hx hb dX11_takes_7 (by decide) (fun c7 => ?_) (fun c7 => ?_)
  · refine lv_iload_n hx hb dX11_takes_14 rfl (lv_at hl 0 rfl) ?_
    exact re_Q hx hb hr hlocks (bi_n _) hw hS dX11_takes_15 (⟨false, k, f, by rw [tW, if_neg (by rw [c7]; decide)], by rw [c7], by first | done | (rw [hc]; simp only [m1p, m2p, m3p, m4p, m5p]; try rfl)⟩)
  · skip
    refine lv_aload_n hx hb dX11_takes_10 rfl (lv_at hl 1 rfl) ?_
    refine cQv (rV (As := []) ⟨hx, hb, hml, hown, hts⟩ hw (k_X11_goesOn l o1 t8 htn (tkP_le _)) (cv_X11_goesOn hts tw_1214 rfl rfl ⟨Nat.le_of_ble_eq_true rfl, Nat.le_of_ble_eq_true rfl⟩) (by decide) o1 rfl rfl hl.1 rfl (by first | exact Nat.le_of_ble_eq_true rfl | decide) dX11_takes_11 ⟨Nat.zero_le _, Nat.zero_le _⟩) hw hS (fun w1 H locs hp11 hw hS => ?_)
    have o1_1 : w1 32 = .inr (9, [.ref (gad G 33), .ref (gad G 34), .ref (gad G 35), .int (nI (n)), .int (nI n1), .int z, .int hd, .int sd, .ref (gad G 36), .ref (gad G 37), .int (nI rn), .ref (gad G 38), .int (nI tn), .int (nI (tkF tf tn ((k + 1)))), .int (nI (tkP tf tn ((k + 1) + 1))), .int (nI (tkK tf tn ((k + 1)))), .int (wR tf tn ((k + 1))), .ref (gad G 39), .ref (gad G 40), .ref (gad G 41), .ref (gad G 42), .ref (gad G 43), .ref (gad G 44), .int (nI n2), .int (nI qn), .int iz, .int (bi im)]) := by rw [hp11]; exact vu_s
    have t8_1 : w1 38 = .inl (gI G, 120, .inl tf) := by rw [hp11]; exact vu_e (by decide) t8
    have a1_1 : w1 33 = .inl (gI G, 132, .inl f) := by rw [hp11]; exact vu_e (by decide) a1
    refine lv_iload_n hx hb dX11_takes_14 rfl (lv_at hl 0 rfl) ?_
    exact re_Q hx hb hr hlocks (bi_n _) hw hS dX11_takes_15 (⟨true, (k + 1), f, by rw [tW, if_pos c7], by rw [c7], by rw [hp11]; first | done | (rw [hc]; simp only [m1p, m2p, m3p, m4p, m5p]; try rfl)⟩)
set_option maxHeartbeats 4000000 in
set_option maxRecDepth 100000 in
theorem k_X11_number (l : Launch) {G : GT} {c : Nat → va_E} {n n1 rn tn n2 qn : Nat} {z hd sd iz : Int32} {im : Bool} {tf : Nat → Int32} {k : Nat} (o1 : c 32 = .inr (9, [.ref (gad G 33), .ref (gad G 34), .ref (gad G 35), .int (nI (n)), .int (nI n1), .int z, .int hd, .int sd, .ref (gad G 36), .ref (gad G 37), .int (nI rn), .ref (gad G 38), .int (nI tn), .int (nI (tkF tf tn (k))), .int (nI (tkP tf tn (k + 1))), .int (nI (tkK tf tn (k))), .int (wR tf tn (k)), .ref (gad G 39), .ref (gad G 40), .ref (gad G 41), .ref (gad G 42), .ref (gad G 43), .ref (gad G 44), .int (nI n2), .int (nI qn), .int iz, .int (bi im)])) (t8 : c 38 = .inl (gI G, 120, .inl tf)) (htn : tn ≤ 120) {f : Nat → Int32} (a1 : c 33 = .inl (gI G, 132, .inl f)) (hn : n ≤ 12) {q fd : Nat} {a b : Int32} (hq : q < 12) (hfd : fd < 11) (hb9 : b < 1000) : Met l yX11_number (wv yX11_number cX11_number 5 (some .boolean)) ({ frames := 3, cells := 0, slots := 0, locals := 64 } : Room) (va_Pc [.ref (gad G 32), .int (nI q), .int (nI fd), .int a, .int b] (fun U => Hw G c U U.heap)) (va_Qi (fun r (c9 : Nat → va_E) => ∃ (b9 : Bool) (k9 : Nat) (f9 : Nat → Int32), tN (KK tf tn) (VV tf tn) (q * 11 + fd) a b k f = (b9, k9, f9) ∧ r = bi b9 ∧ c9 = D2 33 32 c (.inl (gI G, 132, .inl f9)) (.inr (9, [.ref (gad G 33), .ref (gad G 34), .ref (gad G 35), .int (nI (n)), .int (nI n1), .int z, .int hd, .int sd, .ref (gad G 36), .ref (gad G 37), .int (nI rn), .ref (gad G 38), .int (nI tn), .int (nI (tkF tf tn (k9))), .int (nI (tkP tf tn (k9 + 1))), .int (nI (tkK tf tn (k9))), .int (wR tf tn (k9)), .ref (gad G 39), .ref (gad G 40), .ref (gad G 41), .ref (gad G 42), .ref (gad G 43), .ref (gad G 44), .int (nI n2), .int (nI qn), .int iz, .int (bi im)]))) (fun c9 t => Hw G c9 t t.heap) (gA G)) 0 0 (gA G) := by
  refine en (by decide +kernel) (by first | exact Nat.le_of_ble_eq_true rfl | decide) ?_
  intro p e s m below meth cd ls hx hb hr hml hown hts hlocks hnm hw hl
  have hl : lv_has ls 5 [(0, .ref (gad G 32)), (1, .int (nI q)), (2, .int (nI fd)), (3, .int a), (4, .int b)] := hl
  have hX : Sw G s s.heap := hw.2.2.2.2.2
  have hS : va_S (gA G) s.heap s.heap [] := va_S.rf
  obtain ⟨H, hH⟩ : ∃ wz9, wz9 = s.heap := ⟨_, rfl⟩
  obtain ⟨locs, hlocs⟩ : ∃ wz9 : List Loc, wz9 = [] := ⟨_, rfl⟩
  have hw : Hw G c s H := by rw [hH]; exact hw
  have hS : va_S (gA G) s.heap H locs := by rw [hH, hlocs]; exact hS
  suffices hgo : W p l e ({ frames := 3, cells := 0, slots := 0, locals := 64 } : Room) s m (([.ref (gad G 32), .int (nI q), .int (nI fd), .int a, .int b] : List Value).toArray) below meth cd H locs 0 0 (MQ below (va_Qi (fun r (c9 : Nat → va_E) => ∃ (b9 : Bool) (k9 : Nat) (f9 : Nat → Int32), tN (KK tf tn) (VV tf tn) (q * 11 + fd) a b k f = (b9, k9, f9) ∧ r = bi b9 ∧ c9 = D2 33 32 c (.inl (gI G, 132, .inl f9)) (.inr (9, [.ref (gad G 33), .ref (gad G 34), .ref (gad G 35), .int (nI (n)), .int (nI n1), .int z, .int hd, .int sd, .ref (gad G 36), .ref (gad G 37), .int (nI rn), .ref (gad G 38), .int (nI tn), .int (nI (tkF tf tn (k9))), .int (nI (tkP tf tn (k9 + 1))), .int (nI (tkK tf tn (k9))), .int (wR tf tn (k9)), .ref (gad G 39), .ref (gad G 40), .ref (gad G 41), .ref (gad G 42), .ref (gad G 43), .ref (gad G 44), .int (nI n2), .int (nI qn), .int iz, .int (bi im)]))) (fun c9 t => Hw G c9 t t.heap) (gA G)) ([.ref (gad G 32), .int (nI q), .int (nI fd), .int a, .int b] : List Value).toArray s 0 0 (gA G)) (F0 m 0 ls []) by rw [hH, hlocs] at hgo; exact hgo
  have hc : c = D2 33 32 c (.inl (gI G, 132, .inl f)) (.inr (9, [.ref (gad G 33), .ref (gad G 34), .ref (gad G 35), .int (nI (n)), .int (nI n1), .int z, .int hd, .int sd, .ref (gad G 36), .ref (gad G 37), .int (nI rn), .ref (gad G 38), .int (nI tn), .int (nI (tkF tf tn (k))), .int (nI (tkP tf tn (k + 1))), .int (nI (tkK tf tn (k))), .int (wR tf tn (k)), .ref (gad G 39), .ref (gad G 40), .ref (gad G 41), .ref (gad G 42), .ref (gad G 43), .ref (gad G 44), .int (nI n2), .int (nI qn), .int iz, .int (bi im)])) := D2_id a1 o1
  refine lv_aload_n hx hb dX11_number_0 rfl (lv_at hl 0 rfl) ?_
  refine w_get (C := RX11) (T := TX11) (N := 27) 15 hx hb hts inX11 hown hw (by decide) o1 rfl (by decide) (hts _ tw_900) rfl dX11_number_1 ?_
  refine lv_iconst (v := 2) hx hb dX11_number_4 (by decide) ?_
  refine lv_icmp_ne (tgt := 21) hx hb dX11_number_5 (by decide) (fun c5 => ?_) (fun c5 => ?_)
  · refine lv_iconst (v := 0) hx hb dX11_number_21 (by decide) ?_
    exact re_Q hx hb hr hlocks (rfl) hw hS dX11_number_22 (⟨false, k, f, by rw [tN, if_neg (by rw [decide_eq_false (show ¬ KK tf tn k = 2 from c5), Bool.false_and]; decide)], rfl, by first | done | (rw [hc]; simp only [m1p, m2p, m3p, m4p, m5p]; try rfl)⟩)
  · refine lv_aload_n hx hb dX11_number_8 rfl (lv_at hl 0 rfl) ?_
    refine w_get (C := RX11) (T := TX11) (N := 27) 16 hx hb hts inX11 hown hw (by decide) o1 rfl (by decide) (hts _ tw_901) rfl dX11_number_9 ?_
    refine lv_iload_n hx hb dX11_number_12 rfl (lv_at hl 3 rfl) ?_
    refine lv_iload hx hb dX11_number_13 (lv_at hl 4 rfl) ?_
    refine cSe (rST (As := [_, _, _]) ⟨hx, hb, hml, hown, hts⟩ (k_X11_in l ) (cv_X11_in hts tw_987 rfl rfl ⟨Nat.le_of_ble_eq_true rfl, Nat.le_of_ble_eq_true rfl⟩) rfl hl.1 rfl (by first | exact Nat.le_of_ble_eq_true rfl | decide) dX11_number_15 ⟨Nat.zero_le _, Nat.zero_le _⟩) ?_
    refine zb_ne (tgt := 23) hx hb dX11_number_18 (by decide) (fun c18 => ?_) (fun c18 => ?_)
    · refine lv_aload_n hx hb dX11_number_23 rfl (lv_at hl 0 rfl) ?_
      refine lv_iload_n hx hb dX11_number_24 rfl (lv_at hl 1 rfl) ?_
      refine lv_iload_n hx hb dX11_number_25 rfl (lv_at hl 2 rfl) ?_
      refine lv_aload_n hx hb dX11_number_26 rfl (lv_at hl 0 rfl) ?_
      refine w_get (C := RX11) (T := TX11) (N := 27) 16 hx hb hts inX11 hown hw (by decide) o1 rfl (by decide) (hts _ tw_901) rfl dX11_number_27 ?_
      refine tp (y := VV tf tn k) ((num_v hb9 c5).2 c18) ?_
      refine cQv (rV (As := [_, _, _]) ⟨hx, hb, hml, hown, hts⟩ hw (k_X11_sets l o1 a1 hn (ixm q fd) (by omega)) (cv_X11_sets hts tw_975 rfl rfl ⟨Nat.le_of_ble_eq_true rfl, Nat.le_of_ble_eq_true rfl⟩) (by decide) o1 rfl rfl hl.1 rfl (by first | exact Nat.le_of_ble_eq_true rfl | decide) dX11_number_30 ⟨Nat.zero_le _, Nat.zero_le _⟩) hw hS (fun w1 H locs hp30 hw hS => ?_)
      have o1_1 : w1 32 = .inr (9, [.ref (gad G 33), .ref (gad G 34), .ref (gad G 35), .int (nI (n)), .int (nI n1), .int z, .int hd, .int sd, .ref (gad G 36), .ref (gad G 37), .int (nI rn), .ref (gad G 38), .int (nI tn), .int (nI (tkF tf tn (k))), .int (nI (tkP tf tn (k + 1))), .int (nI (tkK tf tn (k))), .int (wR tf tn (k)), .ref (gad G 39), .ref (gad G 40), .ref (gad G 41), .ref (gad G 42), .ref (gad G 43), .ref (gad G 44), .int (nI n2), .int (nI qn), .int iz, .int (bi im)]) := by rw [hp30]; exact vu_e (by decide) o1
      have t8_1 : w1 38 = .inl (gI G, 120, .inl tf) := by rw [hp30]; exact vu_e (by decide) t8
      have a1_1 : w1 33 = .inl (gI G, 132, .inl (upd f (q * 11 + fd) (VV tf tn k))) := by rw [hp30]; exact vu_s
      refine lv_aload_n hx hb dX11_number_33 rfl (lv_at hl 0 rfl) ?_
      refine cQv (rV (As := []) ⟨hx, hb, hml, hown, hts⟩ hw (k_X11_goesOn l o1_1 t8_1 htn (tkP_le _)) (cv_X11_goesOn hts tw_1214 rfl rfl ⟨Nat.le_of_ble_eq_true rfl, Nat.le_of_ble_eq_true rfl⟩) (by decide) o1_1 rfl rfl hl.1 rfl (by first | exact Nat.le_of_ble_eq_true rfl | decide) dX11_number_34 ⟨Nat.zero_le _, Nat.zero_le _⟩) hw hS (fun w2 H locs hp34 hw hS => ?_)
      have o1_2 : w2 32 = .inr (9, [.ref (gad G 33), .ref (gad G 34), .ref (gad G 35), .int (nI (n)), .int (nI n1), .int z, .int hd, .int sd, .ref (gad G 36), .ref (gad G 37), .int (nI rn), .ref (gad G 38), .int (nI tn), .int (nI (tkF tf tn ((k + 1)))), .int (nI (tkP tf tn ((k + 1) + 1))), .int (nI (tkK tf tn ((k + 1)))), .int (wR tf tn ((k + 1))), .ref (gad G 39), .ref (gad G 40), .ref (gad G 41), .ref (gad G 42), .ref (gad G 43), .ref (gad G 44), .int (nI n2), .int (nI qn), .int iz, .int (bi im)]) := by rw [hp34]; exact vu_s
      have t8_2 : w2 38 = .inl (gI G, 120, .inl tf) := by rw [hp34]; exact vu_e (by decide) t8_1
      have a1_2 : w2 33 = .inl (gI G, 132, .inl (upd f (q * 11 + fd) (VV tf tn k))) := by rw [hp34]; exact vu_e (by decide) a1_1
      refine lv_iconst (v := 1) hx hb dX11_number_37 (by decide) ?_
      exact re_Q hx hb hr hlocks (rfl) hw hS dX11_number_38 (⟨true, (k + 1), (upd f (q * 11 + fd) (VV tf tn k)), by rw [tN, if_pos (by rw [decide_eq_true (show KK tf tn k = 2 from c5), ← (num_v hb9 c5).1, c18]; rfl)], rfl, by rw [hp34, hp30]; first | done | (rw [hc]; simp only [m1p, m2p, m3p, m4p, m5p]; try rfl)⟩)
    · refine lv_iconst (v := 0) hx hb dX11_number_21 (by decide) ?_
      exact re_Q hx hb hr hlocks (rfl) hw hS dX11_number_22 (⟨false, k, f, by rw [tN, if_neg (by rw [← (num_v hb9 c5).1, c18, Bool.and_false]; decide)], rfl, by first | done | (rw [hc]; simp only [m1p, m2p, m3p, m4p, m5p]; try rfl)⟩)
theorem wn_03 {t : Nat} (h : t < 4) : wn (nI t) 0 3 = true := by
  have : ∀ t : Nat, t < 4 → wn (nI t) 0 3 = true := by decide +kernel
  exact this t h
set_option maxHeartbeats 4000000 in
set_option maxRecDepth 100000 in
theorem k_X11_isTraitRead (l : Launch) {G : GT} {c : Nat → va_E} {n n1 rn tn n2 qn : Nat} {z hd sd iz : Int32} {im : Bool} {tf : Nat → Int32} {k : Nat} (o1 : c 32 = .inr (9, [.ref (gad G 33), .ref (gad G 34), .ref (gad G 35), .int (nI (n)), .int (nI n1), .int z, .int hd, .int sd, .ref (gad G 36), .ref (gad G 37), .int (nI rn), .ref (gad G 38), .int (nI tn), .int (nI (tkF tf tn (k))), .int (nI (tkP tf tn (k + 1))), .int (nI (tkK tf tn (k))), .int (wR tf tn (k)), .ref (gad G 39), .ref (gad G 40), .ref (gad G 41), .ref (gad G 42), .ref (gad G 43), .ref (gad G 44), .int (nI n2), .int (nI qn), .int iz, .int (bi im)])) (t8 : c 38 = .inl (gI G, 120, .inl tf)) (htn : tn ≤ 120) {f : Nat → Int32} (a1 : c 33 = .inl (gI G, 132, .inl f)) (hn : n ≤ 12) (x9 : c 39 = .inl (gT G, 4, .inr (.inr (.inr (.inr (fun s => some (gK G s))))))) {q fd : Nat} (hq : q < 12) (hfd : fd < 11) : Met l yX11_isTraitRead (wv yX11_isTraitRead cX11_isTraitRead 4 (some .boolean)) ({ frames := 6, cells := 0, slots := 0, locals := 130 } : Room) (va_Pc [.ref (gad G 32), .int (nI q), .int (nI fd)] (fun U => Hw G c U U.heap)) (va_Qi (fun r (c9 : Nat → va_E) => ∃ (b9 : Bool) (k9 : Nat) (f9 : Nat → Int32), tTr (KK tf tn) (VV tf tn) (q * 11 + fd) k f = (b9, k9, f9) ∧ r = bi b9 ∧ c9 = D2 33 32 c (.inl (gI G, 132, .inl f9)) (.inr (9, [.ref (gad G 33), .ref (gad G 34), .ref (gad G 35), .int (nI (n)), .int (nI n1), .int z, .int hd, .int sd, .ref (gad G 36), .ref (gad G 37), .int (nI rn), .ref (gad G 38), .int (nI tn), .int (nI (tkF tf tn (k9))), .int (nI (tkP tf tn (k9 + 1))), .int (nI (tkK tf tn (k9))), .int (wR tf tn (k9)), .ref (gad G 39), .ref (gad G 40), .ref (gad G 41), .ref (gad G 42), .ref (gad G 43), .ref (gad G 44), .int (nI n2), .int (nI qn), .int iz, .int (bi im)]))) (fun c9 t => Hw G c9 t t.heap) (gA G)) 0 0 (gA G) := by
  refine en (by decide +kernel) (by first | exact Nat.le_of_ble_eq_true rfl | decide) ?_
  intro p e s m below meth cd ls hx hb hr hml hown hts hlocks hnm hw hl
  have hl : lv_has ls 4 [(0, .ref (gad G 32)), (1, .int (nI q)), (2, .int (nI fd))] := hl
  have hX : Sw G s s.heap := hw.2.2.2.2.2
  have hS : va_S (gA G) s.heap s.heap [] := va_S.rf
  obtain ⟨H, hH⟩ : ∃ wz9, wz9 = s.heap := ⟨_, rfl⟩
  obtain ⟨locs, hlocs⟩ : ∃ wz9 : List Loc, wz9 = [] := ⟨_, rfl⟩
  have hw : Hw G c s H := by rw [hH]; exact hw
  have hS : va_S (gA G) s.heap H locs := by rw [hH, hlocs]; exact hS
  suffices hgo : W p l e ({ frames := 6, cells := 0, slots := 0, locals := 130 } : Room) s m (([.ref (gad G 32), .int (nI q), .int (nI fd)] : List Value).toArray) below meth cd H locs 0 0 (MQ below (va_Qi (fun r (c9 : Nat → va_E) => ∃ (b9 : Bool) (k9 : Nat) (f9 : Nat → Int32), tTr (KK tf tn) (VV tf tn) (q * 11 + fd) k f = (b9, k9, f9) ∧ r = bi b9 ∧ c9 = D2 33 32 c (.inl (gI G, 132, .inl f9)) (.inr (9, [.ref (gad G 33), .ref (gad G 34), .ref (gad G 35), .int (nI (n)), .int (nI n1), .int z, .int hd, .int sd, .ref (gad G 36), .ref (gad G 37), .int (nI rn), .ref (gad G 38), .int (nI tn), .int (nI (tkF tf tn (k9))), .int (nI (tkP tf tn (k9 + 1))), .int (nI (tkK tf tn (k9))), .int (wR tf tn (k9)), .ref (gad G 39), .ref (gad G 40), .ref (gad G 41), .ref (gad G 42), .ref (gad G 43), .ref (gad G 44), .int (nI n2), .int (nI qn), .int iz, .int (bi im)]))) (fun c9 t => Hw G c9 t t.heap) (gA G)) ([.ref (gad G 32), .int (nI q), .int (nI fd)] : List Value).toArray s 0 0 (gA G)) (F0 m 0 ls []) by rw [hH, hlocs] at hgo; exact hgo
  have hc : c = D2 33 32 c (.inl (gI G, 132, .inl f)) (.inr (9, [.ref (gad G 33), .ref (gad G 34), .ref (gad G 35), .int (nI (n)), .int (nI n1), .int z, .int hd, .int sd, .ref (gad G 36), .ref (gad G 37), .int (nI rn), .ref (gad G 38), .int (nI tn), .int (nI (tkF tf tn (k))), .int (nI (tkP tf tn (k + 1))), .int (nI (tkK tf tn (k))), .int (wR tf tn (k)), .ref (gad G 39), .ref (gad G 40), .ref (gad G 41), .ref (gad G 42), .ref (gad G 43), .ref (gad G 44), .int (nI n2), .int (nI qn), .int iz, .int (bi im)])) := D2_id a1 o1
  refine lv_iconst (v := 0) hx hb dX11_isTraitRead_0 (by decide) ?_
  refine lv_istore_n (lv' := [(3, _), (0, _), (1, _), (2, _)]) hx hb dX11_isTraitRead_1 rfl hl (by decide) rfl (fun ls hl => ?_)
  have L2 : ∀ (N : Nat) (t : Nat), (t + N = 4) → (∀ y, y < t → isW (KK tf tn) (VV tf tn) k (nI y) (nI y) = false) → ∀ (c0 : Nat → va_E) (H : Heap) (locs : List Loc), (c0 = D2 33 32 c (.inl (gI G, 132, .inl f)) (.inr (9, [.ref (gad G 33), .ref (gad G 34), .ref (gad G 35), .int (nI (n)), .int (nI n1), .int z, .int hd, .int sd, .ref (gad G 36), .ref (gad G 37), .int (nI rn), .ref (gad G 38), .int (nI tn), .int (nI (tkF tf tn (k))), .int (nI (tkP tf tn (k + 1))), .int (nI (tkK tf tn (k))), .int (wR tf tn (k)), .ref (gad G 39), .ref (gad G 40), .ref (gad G 41), .ref (gad G 42), .ref (gad G 43), .ref (gad G 44), .int (nI n2), .int (nI qn), .int iz, .int (bi im)]))) → Hw G c0 s H → va_S (gA G) s.heap H locs → ∀ ls : Array Slot, lv_has ls 4 [(3, .int (nI t)), (2, .int (nI fd)), (1, .int (nI q)), (0, .ref (gad G 32))] → W p l e ({ frames := 6, cells := 0, slots := 0, locals := 130 } : Room) s m (([.ref (gad G 32), .int (nI q), .int (nI fd)] : List Value).toArray) below meth cd H locs 0 0 (MQ below (va_Qi (fun r (c9 : Nat → va_E) => ∃ (b9 : Bool) (k9 : Nat) (f9 : Nat → Int32), tTr (KK tf tn) (VV tf tn) (q * 11 + fd) k f = (b9, k9, f9) ∧ r = bi b9 ∧ c9 = D2 33 32 c (.inl (gI G, 132, .inl f9)) (.inr (9, [.ref (gad G 33), .ref (gad G 34), .ref (gad G 35), .int (nI (n)), .int (nI n1), .int z, .int hd, .int sd, .ref (gad G 36), .ref (gad G 37), .int (nI rn), .ref (gad G 38), .int (nI tn), .int (nI (tkF tf tn (k9))), .int (nI (tkP tf tn (k9 + 1))), .int (nI (tkK tf tn (k9))), .int (wR tf tn (k9)), .ref (gad G 39), .ref (gad G 40), .ref (gad G 41), .ref (gad G 42), .ref (gad G 43), .ref (gad G 44), .int (nI n2), .int (nI qn), .int iz, .int (bi im)]))) (fun c9 t => Hw G c9 t t.heap) (gA G)) ([.ref (gad G 32), .int (nI q), .int (nI fd)] : List Value).toArray s 0 0 (gA G)) (F0 m 2 ls []) := by
    intro N
    induction N with
    | zero =>
      intro t  hN hA c0 H locs e0 hw hS ls hl
      have o1 : c0 32 = .inr (9, [.ref (gad G 33), .ref (gad G 34), .ref (gad G 35), .int (nI (n)), .int (nI n1), .int z, .int hd, .int sd, .ref (gad G 36), .ref (gad G 37), .int (nI rn), .ref (gad G 38), .int (nI tn), .int (nI (tkF tf tn (k))), .int (nI (tkP tf tn (k + 1))), .int (nI (tkK tf tn (k))), .int (wR tf tn (k)), .ref (gad G 39), .ref (gad G 40), .ref (gad G 41), .ref (gad G 42), .ref (gad G 43), .ref (gad G 44), .int (nI n2), .int (nI qn), .int iz, .int (bi im)]) := by rw [e0]; exact D2_j
      have a1 : c0 33 = .inl (gI G, 132, .inl f) := by rw [e0]; exact D2_i (by decide)
      have t8 : c0 38 = .inl (gI G, 120, .inl tf) := by rw [e0]; exact D2_o (by decide) (by decide) t8
      have x9 : c0 39 = .inl (gT G, 4, .inr (.inr (.inr (.inr (fun s => some (gK G s)))))) := by rw [e0]; exact D2_o (by decide) (by decide) x9
      have ht4 : t = 4 := by omega
      refine lv_iload_n hx hb dX11_isTraitRead_2 rfl (lv_at hl 0 rfl) ?_
      refine lv_iconst (v := 4) hx hb dX11_isTraitRead_3 (by decide) ?_
      refine lv_icmp_ge (tgt := 38) hx hb dX11_isTraitRead_4 (by decide) (fun c4 => ?_) (fun q => absurd (by rw [ht4]; decide) q)
      refine lv_iconst (v := 0) hx hb dX11_isTraitRead_38 (by decide) ?_
      exact re_Q hx hb hr hlocks (rfl) hw hS dX11_isTraitRead_39 (⟨false, k, f, by rw [tTr, if_neg (by rw [show isW (KK tf tn) (VV tf tn) k 0 3 = false from isW_no (a := 0) (b := 3) (by omega) (by omega) (fun t9 h1 h2 => hA t9 (by omega))]; decide)], rfl, e0⟩)
    | succ N ih =>
      intro t  hN hA c0 H locs e0 hw hS ls hl
      have o1 : c0 32 = .inr (9, [.ref (gad G 33), .ref (gad G 34), .ref (gad G 35), .int (nI (n)), .int (nI n1), .int z, .int hd, .int sd, .ref (gad G 36), .ref (gad G 37), .int (nI rn), .ref (gad G 38), .int (nI tn), .int (nI (tkF tf tn (k))), .int (nI (tkP tf tn (k + 1))), .int (nI (tkK tf tn (k))), .int (wR tf tn (k)), .ref (gad G 39), .ref (gad G 40), .ref (gad G 41), .ref (gad G 42), .ref (gad G 43), .ref (gad G 44), .int (nI n2), .int (nI qn), .int iz, .int (bi im)]) := by rw [e0]; exact D2_j
      have a1 : c0 33 = .inl (gI G, 132, .inl f) := by rw [e0]; exact D2_i (by decide)
      have t8 : c0 38 = .inl (gI G, 120, .inl tf) := by rw [e0]; exact D2_o (by decide) (by decide) t8
      have x9 : c0 39 = .inl (gT G, 4, .inr (.inr (.inr (.inr (fun s => some (gK G s)))))) := by rw [e0]; exact D2_o (by decide) (by decide) x9
      refine lv_iload_n hx hb dX11_isTraitRead_2 rfl (lv_at hl 0 rfl) ?_
      refine lv_iconst (v := 4) hx hb dX11_isTraitRead_3 (by decide) ?_
      refine lv_icmp_ge (tgt := 38) hx hb dX11_isTraitRead_4 (by decide) (fun q => absurd q (nI_ge (b := 4) (by omega) (by omega))) (fun c4 => ?_)
      refine lv_aload_n hx hb dX11_isTraitRead_7 rfl (lv_at hl 3 rfl) ?_
      refine lv_aload_n hx hb dX11_isTraitRead_8 rfl (lv_at hl 3 rfl) ?_
      refine w_get (C := RX11) (T := TX11) (N := 27) 17 hx hb hts inX11 hown hw (by decide) o1 rfl (by decide) (hts _ tw_902) rfl dX11_isTraitRead_9 ?_
      refine lv_iload_n hx hb dX11_isTraitRead_12 rfl (lv_at hl 0 rfl) ?_
      refine w_aald (j := t) (v := gK G t) hx hb hw (by decide) x9 (t0 := 2) rfl rfl (by omega) (by decide) rfl dX11_isTraitRead_13 ?_
      refine cQi (rV (As := [_]) ⟨hx, hb, hml, hown, hts⟩ hw (k_X11_takes l o1 t8 htn a1 hn (i := t) (w := nI t) (by omega) rfl) (cv_X11_takes hts tw_1238 rfl rfl ⟨Nat.le_of_ble_eq_true rfl, Nat.le_of_ble_eq_true rfl⟩) (by decide) o1 rfl rfl hl.1 rfl (by first | exact Nat.le_of_ble_eq_true rfl | decide) dX11_isTraitRead_14 ⟨Nat.zero_le _, Nat.zero_le _⟩) hw hS (fun r14 w1 H locs hp14 hw hS => ?_)
      obtain ⟨b14, kz14, f14, hX14, rfl, hp14⟩ := hp14
      have o1_1 : w1 32 = .inr (9, [.ref (gad G 33), .ref (gad G 34), .ref (gad G 35), .int (nI (n)), .int (nI n1), .int z, .int hd, .int sd, .ref (gad G 36), .ref (gad G 37), .int (nI rn), .ref (gad G 38), .int (nI tn), .int (nI (tkF tf tn (kz14))), .int (nI (tkP tf tn (kz14 + 1))), .int (nI (tkK tf tn (kz14))), .int (wR tf tn (kz14)), .ref (gad G 39), .ref (gad G 40), .ref (gad G 41), .ref (gad G 42), .ref (gad G 43), .ref (gad G 44), .int (nI n2), .int (nI qn), .int iz, .int (bi im)]) := by rw [hp14]; exact D2_j
      have t8_1 : w1 38 = .inl (gI G, 120, .inl tf) := by rw [hp14]; exact D2_o (by decide) (by decide) t8
      have a1_1 : w1 33 = .inl (gI G, 132, .inl f14) := by rw [hp14]; exact D2_i (by decide)
      have x9_1 : w1 39 = .inl (gT G, 4, .inr (.inr (.inr (.inr (fun s => some (gK G s)))))) := by rw [hp14]; exact D2_o (by decide) (by decide) x9
      refine zb_ne (tgt := 23) hx hb dX11_isTraitRead_17 (by decide) (fun c17 => ?_) (fun c17 => ?_)
      · obtain ⟨g1, g2, g3⟩ := tW_t hX14 c17
        obtain ⟨g4, g5⟩ := isW_V (a := 0) (b := 3) g1 (wn_03 (by omega))
        refine lv_aload_n hx hb dX11_isTraitRead_23 rfl (lv_at hl 3 rfl) ?_
        refine lv_iload_n hx hb dX11_isTraitRead_24 rfl (lv_at hl 2 rfl) ?_
        refine lv_iload_n hx hb dX11_isTraitRead_25 rfl (lv_at hl 1 rfl) ?_
        refine lv_iload_n hx hb dX11_isTraitRead_26 rfl (lv_at hl 0 rfl) ?_
        refine cQv (rV (As := [_, _, _]) ⟨hx, hb, hml, hown, hts⟩ hw (k_X11_sets l o1_1 a1_1 hn (ixm q fd) (by omega)) (cv_X11_sets hts tw_975 rfl rfl ⟨Nat.le_of_ble_eq_true rfl, Nat.le_of_ble_eq_true rfl⟩) (by decide) o1_1 rfl rfl hl.1 rfl (by first | exact Nat.le_of_ble_eq_true rfl | decide) dX11_isTraitRead_27 ⟨Nat.zero_le _, Nat.zero_le _⟩) hw hS (fun w2 H locs hp27 hw hS => ?_)
        have o1_2 : w2 32 = .inr (9, [.ref (gad G 33), .ref (gad G 34), .ref (gad G 35), .int (nI (n)), .int (nI n1), .int z, .int hd, .int sd, .ref (gad G 36), .ref (gad G 37), .int (nI rn), .ref (gad G 38), .int (nI tn), .int (nI (tkF tf tn (kz14))), .int (nI (tkP tf tn (kz14 + 1))), .int (nI (tkK tf tn (kz14))), .int (wR tf tn (kz14)), .ref (gad G 39), .ref (gad G 40), .ref (gad G 41), .ref (gad G 42), .ref (gad G 43), .ref (gad G 44), .int (nI n2), .int (nI qn), .int iz, .int (bi im)]) := by rw [hp27]; exact vu_e (by decide) o1_1
        have t8_2 : w2 38 = .inl (gI G, 120, .inl tf) := by rw [hp27]; exact vu_e (by decide) t8_1
        have a1_2 : w2 33 = .inl (gI G, 132, .inl (upd f14 (q * 11 + fd) (nI t))) := by rw [hp27]; exact vu_s
        have x9_2 : w2 39 = .inl (gT G, 4, .inr (.inr (.inr (.inr (fun s => some (gK G s)))))) := by rw [hp27]; exact vu_e (by decide) x9_1
        refine lv_iconst (v := 1) hx hb dX11_isTraitRead_30 (by decide) ?_
        exact re_Q hx hb hr hlocks (rfl) hw hS dX11_isTraitRead_31 (⟨true, kz14, (upd f14 (q * 11 + fd) (nI t)), by rw [tTr, if_pos g5, g2, g3, g4], rfl, by rw [hp27, hp14, e0, m3p, m1p]⟩)
      · obtain ⟨g1, g2, g3⟩ := tW_f hX14 c17
        refine lv_goto (tgt := 32) hx hb dX11_isTraitRead_20 (by decide) ?_
        refine lv_iinc (v := nI (t + 1)) (lv' := [(3, _), (2, _), (1, _), (0, _)]) hx hb dX11_isTraitRead_32 hl (k := 0) rfl (inc1 t) (by decide) rfl (fun ls hl => ?_)
        refine lv_goto (tgt := 2) hx hb dX11_isTraitRead_35 (by decide) ?_
        exact ih (t + 1) (by omega) (lt_s hA g1) _ H locs (by rw [hp14, g2, g3, e0, m3p]) hw hS ls (lv_sub hl [0, 1, 2, 3] rfl)
  exact L2 4 0 (by omega) (fun y hy => absurd hy (Nat.not_lt_zero _)) _ H locs hc hw hS ls (lv_sub hl [0, 3, 2, 1] rfl)
set_option maxHeartbeats 4000000 in
set_option maxRecDepth 100000 in
theorem k_X11_isTest (l : Launch) {G : GT} {c : Nat → va_E} {n n1 rn tn n2 qn : Nat} {z hd sd iz : Int32} {im : Bool} {tf : Nat → Int32} {k : Nat} (o1 : c 32 = .inr (9, [.ref (gad G 33), .ref (gad G 34), .ref (gad G 35), .int (nI (n)), .int (nI n1), .int z, .int hd, .int sd, .ref (gad G 36), .ref (gad G 37), .int (nI rn), .ref (gad G 38), .int (nI tn), .int (nI (tkF tf tn (k))), .int (nI (tkP tf tn (k + 1))), .int (nI (tkK tf tn (k))), .int (wR tf tn (k)), .ref (gad G 39), .ref (gad G 40), .ref (gad G 41), .ref (gad G 42), .ref (gad G 43), .ref (gad G 44), .int (nI n2), .int (nI qn), .int iz, .int (bi im)])) (t8 : c 38 = .inl (gI G, 120, .inl tf)) (htn : tn ≤ 120) {f : Nat → Int32} (a1 : c 33 = .inl (gI G, 132, .inl f)) (hn : n ≤ 12) (x9 : c 39 = .inl (gT G, 4, .inr (.inr (.inr (.inr (fun s => some (gK G s))))))) {q : Nat} (hq : q < 12) : Met l yX11_isTest (wv yX11_isTest cX11_isTest 2 (some .boolean)) ({ frames := 7, cells := 0, slots := 0, locals := 153 } : Room) (va_Pc [.ref (gad G 32), .int (nI q)] (fun U => Hw G c U U.heap)) (va_Qi (fun r (c9 : Nat → va_E) => ∃ (b9 : Bool) (k9 : Nat) (f9 : Nat → Int32), rTest (KK tf tn) (VV tf tn) q k f = (b9, k9, f9) ∧ r = bi b9 ∧ c9 = D2 33 32 c (.inl (gI G, 132, .inl f9)) (.inr (9, [.ref (gad G 33), .ref (gad G 34), .ref (gad G 35), .int (nI (n)), .int (nI n1), .int z, .int hd, .int sd, .ref (gad G 36), .ref (gad G 37), .int (nI rn), .ref (gad G 38), .int (nI tn), .int (nI (tkF tf tn (k9))), .int (nI (tkP tf tn (k9 + 1))), .int (nI (tkK tf tn (k9))), .int (wR tf tn (k9)), .ref (gad G 39), .ref (gad G 40), .ref (gad G 41), .ref (gad G 42), .ref (gad G 43), .ref (gad G 44), .int (nI n2), .int (nI qn), .int iz, .int (bi im)]))) (fun c9 t => Hw G c9 t t.heap) (gA G)) 0 0 (gA G) := by
  refine en (by decide +kernel) (by first | exact Nat.le_of_ble_eq_true rfl | decide) ?_
  intro p e s m below meth cd ls hx hb hr hml hown hts hlocks hnm hw hl
  have hl : lv_has ls 2 [(0, .ref (gad G 32)), (1, .int (nI q))] := hl
  have hX : Sw G s s.heap := hw.2.2.2.2.2
  have hS : va_S (gA G) s.heap s.heap [] := va_S.rf
  obtain ⟨H, hH⟩ : ∃ wz9, wz9 = s.heap := ⟨_, rfl⟩
  obtain ⟨locs, hlocs⟩ : ∃ wz9 : List Loc, wz9 = [] := ⟨_, rfl⟩
  have hw : Hw G c s H := by rw [hH]; exact hw
  have hS : va_S (gA G) s.heap H locs := by rw [hH, hlocs]; exact hS
  suffices hgo : W p l e ({ frames := 7, cells := 0, slots := 0, locals := 153 } : Room) s m (([.ref (gad G 32), .int (nI q)] : List Value).toArray) below meth cd H locs 0 0 (MQ below (va_Qi (fun r (c9 : Nat → va_E) => ∃ (b9 : Bool) (k9 : Nat) (f9 : Nat → Int32), rTest (KK tf tn) (VV tf tn) q k f = (b9, k9, f9) ∧ r = bi b9 ∧ c9 = D2 33 32 c (.inl (gI G, 132, .inl f9)) (.inr (9, [.ref (gad G 33), .ref (gad G 34), .ref (gad G 35), .int (nI (n)), .int (nI n1), .int z, .int hd, .int sd, .ref (gad G 36), .ref (gad G 37), .int (nI rn), .ref (gad G 38), .int (nI tn), .int (nI (tkF tf tn (k9))), .int (nI (tkP tf tn (k9 + 1))), .int (nI (tkK tf tn (k9))), .int (wR tf tn (k9)), .ref (gad G 39), .ref (gad G 40), .ref (gad G 41), .ref (gad G 42), .ref (gad G 43), .ref (gad G 44), .int (nI n2), .int (nI qn), .int iz, .int (bi im)]))) (fun c9 t => Hw G c9 t t.heap) (gA G)) ([.ref (gad G 32), .int (nI q)] : List Value).toArray s 0 0 (gA G)) (F0 m 0 ls []) by rw [hH, hlocs] at hgo; exact hgo
  have hc : c = D2 33 32 c (.inl (gI G, 132, .inl f)) (.inr (9, [.ref (gad G 33), .ref (gad G 34), .ref (gad G 35), .int (nI (n)), .int (nI n1), .int z, .int hd, .int sd, .ref (gad G 36), .ref (gad G 37), .int (nI rn), .ref (gad G 38), .int (nI tn), .int (nI (tkF tf tn (k))), .int (nI (tkP tf tn (k + 1))), .int (nI (tkK tf tn (k))), .int (wR tf tn (k)), .ref (gad G 39), .ref (gad G 40), .ref (gad G 41), .ref (gad G 42), .ref (gad G 43), .ref (gad G 44), .int (nI n2), .int (nI qn), .int iz, .int (bi im)])) := D2_id a1 o1
  refine lv_aload_n hx hb dX11_isTest_0 rfl (lv_at hl 0 rfl) ?_
  refine va_ldcS hx hb hown (hw.2.2.2.2.1 11 (by decide)).2 dX11_isTest_1 ?_
  refine cQi (rV (As := [_]) ⟨hx, hb, hml, hown, hts⟩ hw (k_X11_takes l o1 t8 htn a1 hn (i := 11) (w := 11) (by omega) rfl) (cv_X11_takes hts tw_1238 rfl rfl ⟨Nat.le_of_ble_eq_true rfl, Nat.le_of_ble_eq_true rfl⟩) (by decide) o1 rfl rfl hl.1 rfl (by first | exact Nat.le_of_ble_eq_true rfl | decide) dX11_isTest_3 ⟨Nat.zero_le _, Nat.zero_le _⟩) hw hS (fun r3 w1 H locs hp3 hw hS => ?_)
  obtain ⟨b3, kz3, f3, hX3, rfl, hp3⟩ := hp3
  have o1_1 : w1 32 = .inr (9, [.ref (gad G 33), .ref (gad G 34), .ref (gad G 35), .int (nI (n)), .int (nI n1), .int z, .int hd, .int sd, .ref (gad G 36), .ref (gad G 37), .int (nI rn), .ref (gad G 38), .int (nI tn), .int (nI (tkF tf tn (kz3))), .int (nI (tkP tf tn (kz3 + 1))), .int (nI (tkK tf tn (kz3))), .int (wR tf tn (kz3)), .ref (gad G 39), .ref (gad G 40), .ref (gad G 41), .ref (gad G 42), .ref (gad G 43), .ref (gad G 44), .int (nI n2), .int (nI qn), .int iz, .int (bi im)]) := by rw [hp3]; exact D2_j
  have t8_1 : w1 38 = .inl (gI G, 120, .inl tf) := by rw [hp3]; exact D2_o (by decide) (by decide) t8
  have a1_1 : w1 33 = .inl (gI G, 132, .inl f3) := by rw [hp3]; exact D2_i (by decide)
  have x9_1 : w1 39 = .inl (gT G, 4, .inr (.inr (.inr (.inr (fun s => some (gK G s)))))) := by rw [hp3]; exact D2_o (by decide) (by decide) x9
  refine zb_eq (tgt := 11) hx hb dX11_isTest_6 (by decide) (fun c6 => ?_) (fun c6 => ?_)
  · refine lv_aload_n hx hb dX11_isTest_11 rfl (lv_at hl 0 rfl) ?_
    refine va_ldcS hx hb hown (hw.2.2.2.2.1 13 (by decide)).2 dX11_isTest_12 ?_
    refine cQi (rV (As := [_]) ⟨hx, hb, hml, hown, hts⟩ hw (k_X11_takes l o1_1 t8_1 htn a1_1 hn (i := 13) (w := 13) (by omega) rfl) (cv_X11_takes hts tw_1238 rfl rfl ⟨Nat.le_of_ble_eq_true rfl, Nat.le_of_ble_eq_true rfl⟩) (by decide) o1_1 rfl rfl hl.1 rfl (by first | exact Nat.le_of_ble_eq_true rfl | decide) dX11_isTest_14 ⟨Nat.zero_le _, Nat.zero_le _⟩) hw hS (fun r14 w2 H locs hp14 hw hS => ?_)
    obtain ⟨b14, kz14, f14, hX14, rfl, hp14⟩ := hp14
    have o1_2 : w2 32 = .inr (9, [.ref (gad G 33), .ref (gad G 34), .ref (gad G 35), .int (nI (n)), .int (nI n1), .int z, .int hd, .int sd, .ref (gad G 36), .ref (gad G 37), .int (nI rn), .ref (gad G 38), .int (nI tn), .int (nI (tkF tf tn (kz14))), .int (nI (tkP tf tn (kz14 + 1))), .int (nI (tkK tf tn (kz14))), .int (wR tf tn (kz14)), .ref (gad G 39), .ref (gad G 40), .ref (gad G 41), .ref (gad G 42), .ref (gad G 43), .ref (gad G 44), .int (nI n2), .int (nI qn), .int iz, .int (bi im)]) := by rw [hp14]; exact D2_j
    have t8_2 : w2 38 = .inl (gI G, 120, .inl tf) := by rw [hp14]; exact D2_o (by decide) (by decide) t8_1
    have a1_2 : w2 33 = .inl (gI G, 132, .inl f14) := by rw [hp14]; exact D2_i (by decide)
    have x9_2 : w2 39 = .inl (gT G, 4, .inr (.inr (.inr (.inr (fun s => some (gK G s)))))) := by rw [hp14]; exact D2_o (by decide) (by decide) x9_1
    refine zb_eq (tgt := 57) hx hb dX11_isTest_17 (by decide) (fun c17 => ?_) (fun c17 => ?_)
    · refine lv_aload_n hx hb dX11_isTest_57 rfl (lv_at hl 0 rfl) ?_
      refine lv_iload_n hx hb dX11_isTest_58 rfl (lv_at hl 1 rfl) ?_
      refine lv_iconst (v := 1) hx hb dX11_isTest_59 (by decide) ?_
      refine cQi (rV (As := [_, _]) ⟨hx, hb, hml, hown, hts⟩ hw (k_X11_isTraitRead l o1_2 t8_2 htn a1_2 hn x9_2 (q := q) (fd := 1) hq (by omega)) (cv_X11_isTraitRead hts tw_1247 rfl rfl ⟨Nat.le_of_ble_eq_true rfl, Nat.le_of_ble_eq_true rfl⟩) (by decide) o1_2 rfl rfl hl.1 rfl (by first | exact Nat.le_of_ble_eq_true rfl | decide) dX11_isTest_60 ⟨Nat.zero_le _, Nat.zero_le _⟩) hw hS (fun r60 w3 H locs hp60 hw hS => ?_)
      obtain ⟨b60, kz60, f60, hX60, rfl, hp60⟩ := hp60
      have o1_3 : w3 32 = .inr (9, [.ref (gad G 33), .ref (gad G 34), .ref (gad G 35), .int (nI (n)), .int (nI n1), .int z, .int hd, .int sd, .ref (gad G 36), .ref (gad G 37), .int (nI rn), .ref (gad G 38), .int (nI tn), .int (nI (tkF tf tn (kz60))), .int (nI (tkP tf tn (kz60 + 1))), .int (nI (tkK tf tn (kz60))), .int (wR tf tn (kz60)), .ref (gad G 39), .ref (gad G 40), .ref (gad G 41), .ref (gad G 42), .ref (gad G 43), .ref (gad G 44), .int (nI n2), .int (nI qn), .int iz, .int (bi im)]) := by rw [hp60]; exact D2_j
      have t8_3 : w3 38 = .inl (gI G, 120, .inl tf) := by rw [hp60]; exact D2_o (by decide) (by decide) t8_2
      have a1_3 : w3 33 = .inl (gI G, 132, .inl f60) := by rw [hp60]; exact D2_i (by decide)
      have x9_3 : w3 39 = .inl (gT G, 4, .inr (.inr (.inr (.inr (fun s => some (gK G s)))))) := by rw [hp60]; exact D2_o (by decide) (by decide) x9_2
      refine zb_ne (tgt := 68) hx hb dX11_isTest_63 (by decide) (fun c63 => ?_) (fun c63 => ?_)
      · refine lv_aload_n hx hb dX11_isTest_68 rfl (lv_at hl 0 rfl) ?_
        refine lv_iload_n hx hb dX11_isTest_69 rfl (lv_at hl 1 rfl) ?_
        refine lv_iconst (v := 0) hx hb dX11_isTest_70 (by decide) ?_
        refine lv_aload_n hx hb dX11_isTest_71 rfl (lv_at hl 0 rfl) ?_
        refine va_ldcS hx hb hown (hw.2.2.2.2.1 12 (by decide)).2 dX11_isTest_72 ?_
        refine cQi (rV (As := [_]) ⟨hx, hb, hml, hown, hts⟩ hw (k_X11_takes l o1_3 t8_3 htn a1_3 hn (i := 12) (w := 12) (by omega) rfl) (cv_X11_takes hts tw_1238 rfl rfl ⟨Nat.le_of_ble_eq_true rfl, Nat.le_of_ble_eq_true rfl⟩) (by decide) o1_3 rfl rfl hl.1 rfl (by first | exact Nat.le_of_ble_eq_true rfl | decide) dX11_isTest_74 ⟨Nat.zero_le _, Nat.zero_le _⟩) hw hS (fun r74 w4 H locs hp74 hw hS => ?_)
        obtain ⟨b74, kz74, f74, hX74, rfl, hp74⟩ := hp74
        have o1_4 : w4 32 = .inr (9, [.ref (gad G 33), .ref (gad G 34), .ref (gad G 35), .int (nI (n)), .int (nI n1), .int z, .int hd, .int sd, .ref (gad G 36), .ref (gad G 37), .int (nI rn), .ref (gad G 38), .int (nI tn), .int (nI (tkF tf tn (kz74))), .int (nI (tkP tf tn (kz74 + 1))), .int (nI (tkK tf tn (kz74))), .int (wR tf tn (kz74)), .ref (gad G 39), .ref (gad G 40), .ref (gad G 41), .ref (gad G 42), .ref (gad G 43), .ref (gad G 44), .int (nI n2), .int (nI qn), .int iz, .int (bi im)]) := by rw [hp74]; exact D2_j
        have t8_4 : w4 38 = .inl (gI G, 120, .inl tf) := by rw [hp74]; exact D2_o (by decide) (by decide) t8_3
        have a1_4 : w4 33 = .inl (gI G, 132, .inl f74) := by rw [hp74]; exact D2_i (by decide)
        have x9_4 : w4 39 = .inl (gT G, 4, .inr (.inr (.inr (.inr (fun s => some (gK G s)))))) := by rw [hp74]; exact D2_o (by decide) (by decide) x9_3
        refine zb_eq (tgt := 84) hx hb dX11_isTest_77 (by decide) (fun c77 => ?_) (fun c77 => ?_)
        · refine lv_iconst (v := 1) hx hb dX11_isTest_84 (by decide) ?_
          refine cQv (rV (As := [_, _, _]) ⟨hx, hb, hml, hown, hts⟩ hw (k_X11_sets l o1_4 a1_4 hn (ixm q 0) (by omega)) (cv_X11_sets hts tw_975 rfl rfl ⟨Nat.le_of_ble_eq_true rfl, Nat.le_of_ble_eq_true rfl⟩) (by decide) o1_4 rfl rfl hl.1 rfl (by first | exact Nat.le_of_ble_eq_true rfl | decide) dX11_isTest_85 ⟨Nat.zero_le _, Nat.zero_le _⟩) hw hS (fun w5 H locs hp85 hw hS => ?_)
          have o1_5 : w5 32 = .inr (9, [.ref (gad G 33), .ref (gad G 34), .ref (gad G 35), .int (nI (n)), .int (nI n1), .int z, .int hd, .int sd, .ref (gad G 36), .ref (gad G 37), .int (nI rn), .ref (gad G 38), .int (nI tn), .int (nI (tkF tf tn (kz74))), .int (nI (tkP tf tn (kz74 + 1))), .int (nI (tkK tf tn (kz74))), .int (wR tf tn (kz74)), .ref (gad G 39), .ref (gad G 40), .ref (gad G 41), .ref (gad G 42), .ref (gad G 43), .ref (gad G 44), .int (nI n2), .int (nI qn), .int iz, .int (bi im)]) := by rw [hp85]; exact vu_e (by decide) o1_4
          have t8_5 : w5 38 = .inl (gI G, 120, .inl tf) := by rw [hp85]; exact vu_e (by decide) t8_4
          have a1_5 : w5 33 = .inl (gI G, 132, .inl (upd f74 (q * 11 + 0) (1))) := by rw [hp85]; exact vu_s
          have x9_5 : w5 39 = .inl (gT G, 4, .inr (.inr (.inr (.inr (fun s => some (gK G s)))))) := by rw [hp85]; exact vu_e (by decide) x9_4
          refine lv_aload_n hx hb dX11_isTest_88 rfl (lv_at hl 0 rfl) ?_
          refine lv_iload_n hx hb dX11_isTest_89 rfl (lv_at hl 1 rfl) ?_
          refine lv_iconst (v := 2) hx hb dX11_isTest_90 (by decide) ?_
          refine lv_iconst (v := 0) hx hb dX11_isTest_91 (by decide) ?_
          refine lv_bipush (v := 99) hx hb dX11_isTest_92 (by decide) ?_
          refine cQi (rV (As := [_, _, _, _]) ⟨hx, hb, hml, hown, hts⟩ hw (k_X11_number l o1_5 t8_5 htn a1_5 hn (q := q) (fd := 2) hq (by omega) (by decide)) (cv_X11_number hts tw_1243 rfl rfl ⟨Nat.le_of_ble_eq_true rfl, Nat.le_of_ble_eq_true rfl⟩) (by decide) o1_5 rfl rfl hl.1 rfl (by first | exact Nat.le_of_ble_eq_true rfl | decide) dX11_isTest_94 ⟨Nat.zero_le _, Nat.zero_le _⟩) hw hS (fun r94 w6 H locs hp94 hw hS => ?_)
          obtain ⟨b94, kz94, f94, hX94, rfl, hp94⟩ := hp94
          have o1_6 : w6 32 = .inr (9, [.ref (gad G 33), .ref (gad G 34), .ref (gad G 35), .int (nI (n)), .int (nI n1), .int z, .int hd, .int sd, .ref (gad G 36), .ref (gad G 37), .int (nI rn), .ref (gad G 38), .int (nI tn), .int (nI (tkF tf tn (kz94))), .int (nI (tkP tf tn (kz94 + 1))), .int (nI (tkK tf tn (kz94))), .int (wR tf tn (kz94)), .ref (gad G 39), .ref (gad G 40), .ref (gad G 41), .ref (gad G 42), .ref (gad G 43), .ref (gad G 44), .int (nI n2), .int (nI qn), .int iz, .int (bi im)]) := by rw [hp94]; exact D2_j
          have t8_6 : w6 38 = .inl (gI G, 120, .inl tf) := by rw [hp94]; exact D2_o (by decide) (by decide) t8_5
          have a1_6 : w6 33 = .inl (gI G, 132, .inl f94) := by rw [hp94]; exact D2_i (by decide)
          have x9_6 : w6 39 = .inl (gT G, 4, .inr (.inr (.inr (.inr (fun s => some (gK G s)))))) := by rw [hp94]; exact D2_o (by decide) (by decide) x9_5
          refine zb_eq (tgt := 116) hx hb dX11_isTest_97 (by decide) (fun c97 => ?_) (fun c97 => ?_)
          · refine lv_iconst (v := 0) hx hb dX11_isTest_116 (by decide) ?_
            exact re_Q hx hb hr hlocks (rfl) hw hS dX11_isTest_117 (⟨false, kz94, f94, by rw [rTest, orr_f hX3 c6, orr_f hX14 c17, bnd_t hX60 c63, orr_f hX74 c77, rLH, bnd_f hX94 c97], rfl, by rw [hp94, hp85, hp74, hp60, hp14, hp3]; first | done | (rw [hc]; simp only [m1p, m2p, m3p, m4p, m5p]; try rfl)⟩)
          · refine lv_aload_n hx hb dX11_isTest_100 rfl (lv_at hl 0 rfl) ?_
            refine lv_iload_n hx hb dX11_isTest_101 rfl (lv_at hl 1 rfl) ?_
            refine lv_iconst (v := 3) hx hb dX11_isTest_102 (by decide) ?_
            refine lv_iconst (v := 0) hx hb dX11_isTest_103 (by decide) ?_
            refine lv_bipush (v := 99) hx hb dX11_isTest_104 (by decide) ?_
            refine cQi (rV (As := [_, _, _, _]) ⟨hx, hb, hml, hown, hts⟩ hw (k_X11_number l o1_6 t8_6 htn a1_6 hn (q := q) (fd := 3) hq (by omega) (by decide)) (cv_X11_number hts tw_1243 rfl rfl ⟨Nat.le_of_ble_eq_true rfl, Nat.le_of_ble_eq_true rfl⟩) (by decide) o1_6 rfl rfl hl.1 rfl (by first | exact Nat.le_of_ble_eq_true rfl | decide) dX11_isTest_106 ⟨Nat.zero_le _, Nat.zero_le _⟩) hw hS (fun r106 w7 H locs hp106 hw hS => ?_)
            obtain ⟨b106, kz106, f106, hX106, rfl, hp106⟩ := hp106
            have o1_7 : w7 32 = .inr (9, [.ref (gad G 33), .ref (gad G 34), .ref (gad G 35), .int (nI (n)), .int (nI n1), .int z, .int hd, .int sd, .ref (gad G 36), .ref (gad G 37), .int (nI rn), .ref (gad G 38), .int (nI tn), .int (nI (tkF tf tn (kz106))), .int (nI (tkP tf tn (kz106 + 1))), .int (nI (tkK tf tn (kz106))), .int (wR tf tn (kz106)), .ref (gad G 39), .ref (gad G 40), .ref (gad G 41), .ref (gad G 42), .ref (gad G 43), .ref (gad G 44), .int (nI n2), .int (nI qn), .int iz, .int (bi im)]) := by rw [hp106]; exact D2_j
            have t8_7 : w7 38 = .inl (gI G, 120, .inl tf) := by rw [hp106]; exact D2_o (by decide) (by decide) t8_6
            have a1_7 : w7 33 = .inl (gI G, 132, .inl f106) := by rw [hp106]; exact D2_i (by decide)
            have x9_7 : w7 39 = .inl (gT G, 4, .inr (.inr (.inr (.inr (fun s => some (gK G s)))))) := by rw [hp106]; exact D2_o (by decide) (by decide) x9_6
            refine zb_eq (tgt := 116) hx hb dX11_isTest_109 (by decide) (fun c109 => ?_) (fun c109 => ?_)
            · refine lv_iconst (v := 0) hx hb dX11_isTest_116 (by decide) ?_
              exact re_Q hx hb hr hlocks (rfl) hw hS dX11_isTest_117 (⟨false, kz106, f106, by rw [rTest, orr_f hX3 c6, orr_f hX14 c17, bnd_t hX60 c63, orr_f hX74 c77, rLH, bnd_t hX94 c97, hX106, c109], rfl, by rw [hp106, hp94, hp85, hp74, hp60, hp14, hp3]; first | done | (rw [hc]; simp only [m1p, m2p, m3p, m4p, m5p]; try rfl)⟩)
            · skip
              refine lv_iconst (v := 1) hx hb dX11_isTest_112 (by decide) ?_
              refine lv_goto (tgt := 117) hx hb dX11_isTest_113 (by decide) ?_
              exact re_Q hx hb hr hlocks (rfl) hw hS dX11_isTest_117 (⟨true, kz106, f106, by rw [rTest, orr_f hX3 c6, orr_f hX14 c17, bnd_t hX60 c63, orr_f hX74 c77, rLH, bnd_t hX94 c97, hX106, c109], rfl, by rw [hp106, hp94, hp85, hp74, hp60, hp14, hp3]; first | done | (rw [hc]; simp only [m1p, m2p, m3p, m4p, m5p]; try rfl)⟩)
        · skip
          refine lv_iconst (v := 2) hx hb dX11_isTest_80 (by decide) ?_
          refine lv_goto (tgt := 85) hx hb dX11_isTest_81 (by decide) ?_
          refine cQv (rV (As := [_, _, _]) ⟨hx, hb, hml, hown, hts⟩ hw (k_X11_sets l o1_4 a1_4 hn (ixm q 0) (by omega)) (cv_X11_sets hts tw_975 rfl rfl ⟨Nat.le_of_ble_eq_true rfl, Nat.le_of_ble_eq_true rfl⟩) (by decide) o1_4 rfl rfl hl.1 rfl (by first | exact Nat.le_of_ble_eq_true rfl | decide) dX11_isTest_85 ⟨Nat.zero_le _, Nat.zero_le _⟩) hw hS (fun w8 H locs hp85 hw hS => ?_)
          have o1_8 : w8 32 = .inr (9, [.ref (gad G 33), .ref (gad G 34), .ref (gad G 35), .int (nI (n)), .int (nI n1), .int z, .int hd, .int sd, .ref (gad G 36), .ref (gad G 37), .int (nI rn), .ref (gad G 38), .int (nI tn), .int (nI (tkF tf tn (kz74))), .int (nI (tkP tf tn (kz74 + 1))), .int (nI (tkK tf tn (kz74))), .int (wR tf tn (kz74)), .ref (gad G 39), .ref (gad G 40), .ref (gad G 41), .ref (gad G 42), .ref (gad G 43), .ref (gad G 44), .int (nI n2), .int (nI qn), .int iz, .int (bi im)]) := by rw [hp85]; exact vu_e (by decide) o1_4
          have t8_8 : w8 38 = .inl (gI G, 120, .inl tf) := by rw [hp85]; exact vu_e (by decide) t8_4
          have a1_8 : w8 33 = .inl (gI G, 132, .inl (upd f74 (q * 11 + 0) (2))) := by rw [hp85]; exact vu_s
          have x9_8 : w8 39 = .inl (gT G, 4, .inr (.inr (.inr (.inr (fun s => some (gK G s)))))) := by rw [hp85]; exact vu_e (by decide) x9_4
          refine lv_aload_n hx hb dX11_isTest_88 rfl (lv_at hl 0 rfl) ?_
          refine lv_iload_n hx hb dX11_isTest_89 rfl (lv_at hl 1 rfl) ?_
          refine lv_iconst (v := 2) hx hb dX11_isTest_90 (by decide) ?_
          refine lv_iconst (v := 0) hx hb dX11_isTest_91 (by decide) ?_
          refine lv_bipush (v := 99) hx hb dX11_isTest_92 (by decide) ?_
          refine cQi (rV (As := [_, _, _, _]) ⟨hx, hb, hml, hown, hts⟩ hw (k_X11_number l o1_8 t8_8 htn a1_8 hn (q := q) (fd := 2) hq (by omega) (by decide)) (cv_X11_number hts tw_1243 rfl rfl ⟨Nat.le_of_ble_eq_true rfl, Nat.le_of_ble_eq_true rfl⟩) (by decide) o1_8 rfl rfl hl.1 rfl (by first | exact Nat.le_of_ble_eq_true rfl | decide) dX11_isTest_94 ⟨Nat.zero_le _, Nat.zero_le _⟩) hw hS (fun r94 w9 H locs hp94 hw hS => ?_)
          obtain ⟨b94, kz94, f94, hX94, rfl, hp94⟩ := hp94
          have o1_9 : w9 32 = .inr (9, [.ref (gad G 33), .ref (gad G 34), .ref (gad G 35), .int (nI (n)), .int (nI n1), .int z, .int hd, .int sd, .ref (gad G 36), .ref (gad G 37), .int (nI rn), .ref (gad G 38), .int (nI tn), .int (nI (tkF tf tn (kz94))), .int (nI (tkP tf tn (kz94 + 1))), .int (nI (tkK tf tn (kz94))), .int (wR tf tn (kz94)), .ref (gad G 39), .ref (gad G 40), .ref (gad G 41), .ref (gad G 42), .ref (gad G 43), .ref (gad G 44), .int (nI n2), .int (nI qn), .int iz, .int (bi im)]) := by rw [hp94]; exact D2_j
          have t8_9 : w9 38 = .inl (gI G, 120, .inl tf) := by rw [hp94]; exact D2_o (by decide) (by decide) t8_8
          have a1_9 : w9 33 = .inl (gI G, 132, .inl f94) := by rw [hp94]; exact D2_i (by decide)
          have x9_9 : w9 39 = .inl (gT G, 4, .inr (.inr (.inr (.inr (fun s => some (gK G s)))))) := by rw [hp94]; exact D2_o (by decide) (by decide) x9_8
          refine zb_eq (tgt := 116) hx hb dX11_isTest_97 (by decide) (fun c97 => ?_) (fun c97 => ?_)
          · refine lv_iconst (v := 0) hx hb dX11_isTest_116 (by decide) ?_
            exact re_Q hx hb hr hlocks (rfl) hw hS dX11_isTest_117 (⟨false, kz94, f94, by rw [rTest, orr_f hX3 c6, orr_f hX14 c17, bnd_t hX60 c63, orr_t hX74 c77, rLH, bnd_f hX94 c97], rfl, by rw [hp94, hp85, hp74, hp60, hp14, hp3]; first | done | (rw [hc]; simp only [m1p, m2p, m3p, m4p, m5p]; try rfl)⟩)
          · refine lv_aload_n hx hb dX11_isTest_100 rfl (lv_at hl 0 rfl) ?_
            refine lv_iload_n hx hb dX11_isTest_101 rfl (lv_at hl 1 rfl) ?_
            refine lv_iconst (v := 3) hx hb dX11_isTest_102 (by decide) ?_
            refine lv_iconst (v := 0) hx hb dX11_isTest_103 (by decide) ?_
            refine lv_bipush (v := 99) hx hb dX11_isTest_104 (by decide) ?_
            refine cQi (rV (As := [_, _, _, _]) ⟨hx, hb, hml, hown, hts⟩ hw (k_X11_number l o1_9 t8_9 htn a1_9 hn (q := q) (fd := 3) hq (by omega) (by decide)) (cv_X11_number hts tw_1243 rfl rfl ⟨Nat.le_of_ble_eq_true rfl, Nat.le_of_ble_eq_true rfl⟩) (by decide) o1_9 rfl rfl hl.1 rfl (by first | exact Nat.le_of_ble_eq_true rfl | decide) dX11_isTest_106 ⟨Nat.zero_le _, Nat.zero_le _⟩) hw hS (fun r106 w10 H locs hp106 hw hS => ?_)
            obtain ⟨b106, kz106, f106, hX106, rfl, hp106⟩ := hp106
            have o1_10 : w10 32 = .inr (9, [.ref (gad G 33), .ref (gad G 34), .ref (gad G 35), .int (nI (n)), .int (nI n1), .int z, .int hd, .int sd, .ref (gad G 36), .ref (gad G 37), .int (nI rn), .ref (gad G 38), .int (nI tn), .int (nI (tkF tf tn (kz106))), .int (nI (tkP tf tn (kz106 + 1))), .int (nI (tkK tf tn (kz106))), .int (wR tf tn (kz106)), .ref (gad G 39), .ref (gad G 40), .ref (gad G 41), .ref (gad G 42), .ref (gad G 43), .ref (gad G 44), .int (nI n2), .int (nI qn), .int iz, .int (bi im)]) := by rw [hp106]; exact D2_j
            have t8_10 : w10 38 = .inl (gI G, 120, .inl tf) := by rw [hp106]; exact D2_o (by decide) (by decide) t8_9
            have a1_10 : w10 33 = .inl (gI G, 132, .inl f106) := by rw [hp106]; exact D2_i (by decide)
            have x9_10 : w10 39 = .inl (gT G, 4, .inr (.inr (.inr (.inr (fun s => some (gK G s)))))) := by rw [hp106]; exact D2_o (by decide) (by decide) x9_9
            refine zb_eq (tgt := 116) hx hb dX11_isTest_109 (by decide) (fun c109 => ?_) (fun c109 => ?_)
            · refine lv_iconst (v := 0) hx hb dX11_isTest_116 (by decide) ?_
              exact re_Q hx hb hr hlocks (rfl) hw hS dX11_isTest_117 (⟨false, kz106, f106, by rw [rTest, orr_f hX3 c6, orr_f hX14 c17, bnd_t hX60 c63, orr_t hX74 c77, rLH, bnd_t hX94 c97, hX106, c109], rfl, by rw [hp106, hp94, hp85, hp74, hp60, hp14, hp3]; first | done | (rw [hc]; simp only [m1p, m2p, m3p, m4p, m5p]; try rfl)⟩)
            · skip
              refine lv_iconst (v := 1) hx hb dX11_isTest_112 (by decide) ?_
              refine lv_goto (tgt := 117) hx hb dX11_isTest_113 (by decide) ?_
              exact re_Q hx hb hr hlocks (rfl) hw hS dX11_isTest_117 (⟨true, kz106, f106, by rw [rTest, orr_f hX3 c6, orr_f hX14 c17, bnd_t hX60 c63, orr_t hX74 c77, rLH, bnd_t hX94 c97, hX106, c109], rfl, by rw [hp106, hp94, hp85, hp74, hp60, hp14, hp3]; first | done | (rw [hc]; simp only [m1p, m2p, m3p, m4p, m5p]; try rfl)⟩)
      · refine lv_iconst (v := 0) hx hb dX11_isTest_66 (by decide) ?_
        exact re_Q hx hb hr hlocks (rfl) hw hS dX11_isTest_67 (⟨false, kz60, f60, by rw [rTest, orr_f hX3 c6, orr_f hX14 c17, bnd_f hX60 c63], rfl, by rw [hp60, hp14, hp3]; first | done | (rw [hc]; simp only [m1p, m2p, m3p, m4p, m5p]; try rfl)⟩)
    · refine lv_aload_n hx hb dX11_isTest_20 rfl (lv_at hl 0 rfl) ?_
      refine lv_iload_n hx hb dX11_isTest_21 rfl (lv_at hl 1 rfl) ?_
      refine lv_iconst (v := 0) hx hb dX11_isTest_22 (by decide) ?_
      refine lv_iconst (v := 3) hx hb dX11_isTest_23 (by decide) ?_
      refine cQv (rV (As := [_, _, _]) ⟨hx, hb, hml, hown, hts⟩ hw (k_X11_sets l o1_2 a1_2 hn (ixm q 0) (by omega)) (cv_X11_sets hts tw_975 rfl rfl ⟨Nat.le_of_ble_eq_true rfl, Nat.le_of_ble_eq_true rfl⟩) (by decide) o1_2 rfl rfl hl.1 rfl (by first | exact Nat.le_of_ble_eq_true rfl | decide) dX11_isTest_24 ⟨Nat.zero_le _, Nat.zero_le _⟩) hw hS (fun w11 H locs hp24 hw hS => ?_)
      have o1_11 : w11 32 = .inr (9, [.ref (gad G 33), .ref (gad G 34), .ref (gad G 35), .int (nI (n)), .int (nI n1), .int z, .int hd, .int sd, .ref (gad G 36), .ref (gad G 37), .int (nI rn), .ref (gad G 38), .int (nI tn), .int (nI (tkF tf tn (kz14))), .int (nI (tkP tf tn (kz14 + 1))), .int (nI (tkK tf tn (kz14))), .int (wR tf tn (kz14)), .ref (gad G 39), .ref (gad G 40), .ref (gad G 41), .ref (gad G 42), .ref (gad G 43), .ref (gad G 44), .int (nI n2), .int (nI qn), .int iz, .int (bi im)]) := by rw [hp24]; exact vu_e (by decide) o1_2
      have t8_11 : w11 38 = .inl (gI G, 120, .inl tf) := by rw [hp24]; exact vu_e (by decide) t8_2
      have a1_11 : w11 33 = .inl (gI G, 132, .inl (upd f14 (q * 11 + 0) (3))) := by rw [hp24]; exact vu_s
      have x9_11 : w11 39 = .inl (gT G, 4, .inr (.inr (.inr (.inr (fun s => some (gK G s)))))) := by rw [hp24]; exact vu_e (by decide) x9_2
      refine lv_aload_n hx hb dX11_isTest_27 rfl (lv_at hl 0 rfl) ?_
      refine lv_iload_n hx hb dX11_isTest_28 rfl (lv_at hl 1 rfl) ?_
      refine lv_iconst (v := 2) hx hb dX11_isTest_29 (by decide) ?_
      refine lv_iconst (v := 0) hx hb dX11_isTest_30 (by decide) ?_
      refine lv_bipush (v := 31) hx hb dX11_isTest_31 (by decide) ?_
      refine cQi (rV (As := [_, _, _, _]) ⟨hx, hb, hml, hown, hts⟩ hw (k_X11_number l o1_11 t8_11 htn a1_11 hn (q := q) (fd := 2) hq (by omega) (by decide)) (cv_X11_number hts tw_1243 rfl rfl ⟨Nat.le_of_ble_eq_true rfl, Nat.le_of_ble_eq_true rfl⟩) (by decide) o1_11 rfl rfl hl.1 rfl (by first | exact Nat.le_of_ble_eq_true rfl | decide) dX11_isTest_33 ⟨Nat.zero_le _, Nat.zero_le _⟩) hw hS (fun r33 w12 H locs hp33 hw hS => ?_)
      obtain ⟨b33, kz33, f33, hX33, rfl, hp33⟩ := hp33
      have o1_12 : w12 32 = .inr (9, [.ref (gad G 33), .ref (gad G 34), .ref (gad G 35), .int (nI (n)), .int (nI n1), .int z, .int hd, .int sd, .ref (gad G 36), .ref (gad G 37), .int (nI rn), .ref (gad G 38), .int (nI tn), .int (nI (tkF tf tn (kz33))), .int (nI (tkP tf tn (kz33 + 1))), .int (nI (tkK tf tn (kz33))), .int (wR tf tn (kz33)), .ref (gad G 39), .ref (gad G 40), .ref (gad G 41), .ref (gad G 42), .ref (gad G 43), .ref (gad G 44), .int (nI n2), .int (nI qn), .int iz, .int (bi im)]) := by rw [hp33]; exact D2_j
      have t8_12 : w12 38 = .inl (gI G, 120, .inl tf) := by rw [hp33]; exact D2_o (by decide) (by decide) t8_11
      have a1_12 : w12 33 = .inl (gI G, 132, .inl f33) := by rw [hp33]; exact D2_i (by decide)
      have x9_12 : w12 39 = .inl (gT G, 4, .inr (.inr (.inr (.inr (fun s => some (gK G s)))))) := by rw [hp33]; exact D2_o (by decide) (by decide) x9_11
      refine zb_eq (tgt := 55) hx hb dX11_isTest_36 (by decide) (fun c36 => ?_) (fun c36 => ?_)
      · refine lv_iconst (v := 0) hx hb dX11_isTest_55 (by decide) ?_
        exact re_Q hx hb hr hlocks (rfl) hw hS dX11_isTest_56 (⟨false, kz33, f33, by rw [rTest, orr_f hX3 c6, orr_t hX14 c17, rLH, bnd_f hX33 c36], rfl, by rw [hp33, hp24, hp14, hp3]; first | done | (rw [hc]; simp only [m1p, m2p, m3p, m4p, m5p]; try rfl)⟩)
      · refine lv_aload_n hx hb dX11_isTest_39 rfl (lv_at hl 0 rfl) ?_
        refine lv_iload_n hx hb dX11_isTest_40 rfl (lv_at hl 1 rfl) ?_
        refine lv_iconst (v := 3) hx hb dX11_isTest_41 (by decide) ?_
        refine lv_iconst (v := 0) hx hb dX11_isTest_42 (by decide) ?_
        refine lv_bipush (v := 31) hx hb dX11_isTest_43 (by decide) ?_
        refine cQi (rV (As := [_, _, _, _]) ⟨hx, hb, hml, hown, hts⟩ hw (k_X11_number l o1_12 t8_12 htn a1_12 hn (q := q) (fd := 3) hq (by omega) (by decide)) (cv_X11_number hts tw_1243 rfl rfl ⟨Nat.le_of_ble_eq_true rfl, Nat.le_of_ble_eq_true rfl⟩) (by decide) o1_12 rfl rfl hl.1 rfl (by first | exact Nat.le_of_ble_eq_true rfl | decide) dX11_isTest_45 ⟨Nat.zero_le _, Nat.zero_le _⟩) hw hS (fun r45 w13 H locs hp45 hw hS => ?_)
        obtain ⟨b45, kz45, f45, hX45, rfl, hp45⟩ := hp45
        have o1_13 : w13 32 = .inr (9, [.ref (gad G 33), .ref (gad G 34), .ref (gad G 35), .int (nI (n)), .int (nI n1), .int z, .int hd, .int sd, .ref (gad G 36), .ref (gad G 37), .int (nI rn), .ref (gad G 38), .int (nI tn), .int (nI (tkF tf tn (kz45))), .int (nI (tkP tf tn (kz45 + 1))), .int (nI (tkK tf tn (kz45))), .int (wR tf tn (kz45)), .ref (gad G 39), .ref (gad G 40), .ref (gad G 41), .ref (gad G 42), .ref (gad G 43), .ref (gad G 44), .int (nI n2), .int (nI qn), .int iz, .int (bi im)]) := by rw [hp45]; exact D2_j
        have t8_13 : w13 38 = .inl (gI G, 120, .inl tf) := by rw [hp45]; exact D2_o (by decide) (by decide) t8_12
        have a1_13 : w13 33 = .inl (gI G, 132, .inl f45) := by rw [hp45]; exact D2_i (by decide)
        have x9_13 : w13 39 = .inl (gT G, 4, .inr (.inr (.inr (.inr (fun s => some (gK G s)))))) := by rw [hp45]; exact D2_o (by decide) (by decide) x9_12
        refine zb_eq (tgt := 55) hx hb dX11_isTest_48 (by decide) (fun c48 => ?_) (fun c48 => ?_)
        · refine lv_iconst (v := 0) hx hb dX11_isTest_55 (by decide) ?_
          exact re_Q hx hb hr hlocks (rfl) hw hS dX11_isTest_56 (⟨false, kz45, f45, by rw [rTest, orr_f hX3 c6, orr_t hX14 c17, rLH, bnd_t hX33 c36, hX45, c48], rfl, by rw [hp45, hp33, hp24, hp14, hp3]; first | done | (rw [hc]; simp only [m1p, m2p, m3p, m4p, m5p]; try rfl)⟩)
        · skip
          refine lv_iconst (v := 1) hx hb dX11_isTest_51 (by decide) ?_
          refine lv_goto (tgt := 56) hx hb dX11_isTest_52 (by decide) ?_
          exact re_Q hx hb hr hlocks (rfl) hw hS dX11_isTest_56 (⟨true, kz45, f45, by rw [rTest, orr_f hX3 c6, orr_t hX14 c17, rLH, bnd_t hX33 c36, hX45, c48], rfl, by rw [hp45, hp33, hp24, hp14, hp3]; first | done | (rw [hc]; simp only [m1p, m2p, m3p, m4p, m5p]; try rfl)⟩)
  · refine lv_iconst (v := 1) hx hb dX11_isTest_9 (by decide) ?_
    exact re_Q hx hb hr hlocks (rfl) hw hS dX11_isTest_10 (⟨true, kz3, f3, by rw [rTest, orr_t hX3 c6], rfl, by rw [hp3]; first | done | (rw [hc]; simp only [m1p, m2p, m3p, m4p, m5p]; try rfl)⟩)
set_option maxHeartbeats 4000000 in
set_option maxRecDepth 100000 in
theorem k_X11_isGrant (l : Launch) {G : GT} {c : Nat → va_E} {n n1 rn tn n2 qn : Nat} {z hd sd iz : Int32} {im : Bool} {tf : Nat → Int32} {k : Nat} (o1 : c 32 = .inr (9, [.ref (gad G 33), .ref (gad G 34), .ref (gad G 35), .int (nI (n)), .int (nI n1), .int z, .int hd, .int sd, .ref (gad G 36), .ref (gad G 37), .int (nI rn), .ref (gad G 38), .int (nI tn), .int (nI (tkF tf tn (k))), .int (nI (tkP tf tn (k + 1))), .int (nI (tkK tf tn (k))), .int (wR tf tn (k)), .ref (gad G 39), .ref (gad G 40), .ref (gad G 41), .ref (gad G 42), .ref (gad G 43), .ref (gad G 44), .int (nI n2), .int (nI qn), .int iz, .int (bi im)])) (t8 : c 38 = .inl (gI G, 120, .inl tf)) (htn : tn ≤ 120) {f : Nat → Int32} (a1 : c 33 = .inl (gI G, 132, .inl f)) (hn : n ≤ 12) (x9 : c 39 = .inl (gT G, 4, .inr (.inr (.inr (.inr (fun s => some (gK G s))))))) {q : Nat} (hq : q < 12) : Met l yX11_isGrant (wv yX11_isGrant cX11_isGrant 3 (some .boolean)) ({ frames := 7, cells := 0, slots := 0, locals := 153 } : Room) (va_Pc [.ref (gad G 32), .int (nI q)] (fun U => Hw G c U U.heap)) (va_Qi (fun r (c9 : Nat → va_E) => ∃ (b9 : Bool) (k9 : Nat) (f9 : Nat → Int32), rGrant (KK tf tn) (VV tf tn) q k f = (b9, k9, f9) ∧ r = bi b9 ∧ c9 = D2 33 32 c (.inl (gI G, 132, .inl f9)) (.inr (9, [.ref (gad G 33), .ref (gad G 34), .ref (gad G 35), .int (nI (n)), .int (nI n1), .int z, .int hd, .int sd, .ref (gad G 36), .ref (gad G 37), .int (nI rn), .ref (gad G 38), .int (nI tn), .int (nI (tkF tf tn (k9))), .int (nI (tkP tf tn (k9 + 1))), .int (nI (tkK tf tn (k9))), .int (wR tf tn (k9)), .ref (gad G 39), .ref (gad G 40), .ref (gad G 41), .ref (gad G 42), .ref (gad G 43), .ref (gad G 44), .int (nI n2), .int (nI qn), .int iz, .int (bi im)]))) (fun c9 t => Hw G c9 t t.heap) (gA G)) 0 0 (gA G) := by
  refine en (by decide +kernel) (by first | exact Nat.le_of_ble_eq_true rfl | decide) ?_
  intro p e s m below meth cd ls hx hb hr hml hown hts hlocks hnm hw hl
  have hl : lv_has ls 3 [(0, .ref (gad G 32)), (1, .int (nI q))] := hl
  have hX : Sw G s s.heap := hw.2.2.2.2.2
  have hS : va_S (gA G) s.heap s.heap [] := va_S.rf
  obtain ⟨H, hH⟩ : ∃ wz9, wz9 = s.heap := ⟨_, rfl⟩
  obtain ⟨locs, hlocs⟩ : ∃ wz9 : List Loc, wz9 = [] := ⟨_, rfl⟩
  have hw : Hw G c s H := by rw [hH]; exact hw
  have hS : va_S (gA G) s.heap H locs := by rw [hH, hlocs]; exact hS
  suffices hgo : W p l e ({ frames := 7, cells := 0, slots := 0, locals := 153 } : Room) s m (([.ref (gad G 32), .int (nI q)] : List Value).toArray) below meth cd H locs 0 0 (MQ below (va_Qi (fun r (c9 : Nat → va_E) => ∃ (b9 : Bool) (k9 : Nat) (f9 : Nat → Int32), rGrant (KK tf tn) (VV tf tn) q k f = (b9, k9, f9) ∧ r = bi b9 ∧ c9 = D2 33 32 c (.inl (gI G, 132, .inl f9)) (.inr (9, [.ref (gad G 33), .ref (gad G 34), .ref (gad G 35), .int (nI (n)), .int (nI n1), .int z, .int hd, .int sd, .ref (gad G 36), .ref (gad G 37), .int (nI rn), .ref (gad G 38), .int (nI tn), .int (nI (tkF tf tn (k9))), .int (nI (tkP tf tn (k9 + 1))), .int (nI (tkK tf tn (k9))), .int (wR tf tn (k9)), .ref (gad G 39), .ref (gad G 40), .ref (gad G 41), .ref (gad G 42), .ref (gad G 43), .ref (gad G 44), .int (nI n2), .int (nI qn), .int iz, .int (bi im)]))) (fun c9 t => Hw G c9 t t.heap) (gA G)) ([.ref (gad G 32), .int (nI q)] : List Value).toArray s 0 0 (gA G)) (F0 m 0 ls []) by rw [hH, hlocs] at hgo; exact hgo
  have hc : c = D2 33 32 c (.inl (gI G, 132, .inl f)) (.inr (9, [.ref (gad G 33), .ref (gad G 34), .ref (gad G 35), .int (nI (n)), .int (nI n1), .int z, .int hd, .int sd, .ref (gad G 36), .ref (gad G 37), .int (nI rn), .ref (gad G 38), .int (nI tn), .int (nI (tkF tf tn (k))), .int (nI (tkP tf tn (k + 1))), .int (nI (tkK tf tn (k))), .int (wR tf tn (k)), .ref (gad G 39), .ref (gad G 40), .ref (gad G 41), .ref (gad G 42), .ref (gad G 43), .ref (gad G 44), .int (nI n2), .int (nI qn), .int iz, .int (bi im)])) := D2_id a1 o1
  refine lv_aload_n hx hb dX11_isGrant_0 rfl (lv_at hl 0 rfl) ?_
  refine va_ldcS hx hb hown (hw.2.2.2.2.1 4 (by decide)).2 dX11_isGrant_1 ?_
  refine cSe (rV (As := [_]) ⟨hx, hb, hml, hown, hts⟩ hw (k_X11_isWord l o1 t8 htn (i := 4) (w := 4) (by omega) rfl) (cv_X11_isWord hts tw_1227 rfl rfl ⟨Nat.le_of_ble_eq_true rfl, Nat.le_of_ble_eq_true rfl⟩) (by decide) o1 rfl rfl hl.1 rfl (by first | exact Nat.le_of_ble_eq_true rfl | decide) dX11_isGrant_3 ⟨Nat.zero_le _, Nat.zero_le _⟩) ?_
  refine zb_eq (tgt := 13) hx hb dX11_isGrant_6 (by decide) (fun c6 => ?_) (fun c6 => ?_)
  · refine lv_aload_n hx hb dX11_isGrant_13 rfl (lv_at hl 0 rfl) ?_
    refine va_ldcS hx hb hown (hw.2.2.2.2.1 5 (by decide)).2 dX11_isGrant_14 ?_
    refine cSe (rV (As := [_]) ⟨hx, hb, hml, hown, hts⟩ hw (k_X11_isWord l o1 t8 htn (i := 5) (w := 5) (by omega) rfl) (cv_X11_isWord hts tw_1227 rfl rfl ⟨Nat.le_of_ble_eq_true rfl, Nat.le_of_ble_eq_true rfl⟩) (by decide) o1 rfl rfl hl.1 rfl (by first | exact Nat.le_of_ble_eq_true rfl | decide) dX11_isGrant_16 ⟨Nat.zero_le _, Nat.zero_le _⟩) ?_
    refine zb_eq (tgt := 26) hx hb dX11_isGrant_19 (by decide) (fun c19 => ?_) (fun c19 => ?_)
    · refine lv_aload_n hx hb dX11_isGrant_26 rfl (lv_at hl 0 rfl) ?_
      refine va_ldcS hx hb hown (hw.2.2.2.2.1 6 (by decide)).2 dX11_isGrant_27 ?_
      refine cSe (rV (As := [_]) ⟨hx, hb, hml, hown, hts⟩ hw (k_X11_isWord l o1 t8 htn (i := 6) (w := 6) (by omega) rfl) (cv_X11_isWord hts tw_1227 rfl rfl ⟨Nat.le_of_ble_eq_true rfl, Nat.le_of_ble_eq_true rfl⟩) (by decide) o1 rfl rfl hl.1 rfl (by first | exact Nat.le_of_ble_eq_true rfl | decide) dX11_isGrant_29 ⟨Nat.zero_le _, Nat.zero_le _⟩) ?_
      refine zb_eq (tgt := 39) hx hb dX11_isGrant_32 (by decide) (fun c32 => ?_) (fun c32 => ?_)
      · refine lv_aload_n hx hb dX11_isGrant_39 rfl (lv_at hl 0 rfl) ?_
        refine va_ldcS hx hb hown (hw.2.2.2.2.1 7 (by decide)).2 dX11_isGrant_40 ?_
        refine cSe (rV (As := [_]) ⟨hx, hb, hml, hown, hts⟩ hw (k_X11_isWord l o1 t8 htn (i := 7) (w := 7) (by omega) rfl) (cv_X11_isWord hts tw_1227 rfl rfl ⟨Nat.le_of_ble_eq_true rfl, Nat.le_of_ble_eq_true rfl⟩) (by decide) o1 rfl rfl hl.1 rfl (by first | exact Nat.le_of_ble_eq_true rfl | decide) dX11_isGrant_42 ⟨Nat.zero_le _, Nat.zero_le _⟩) ?_
        refine zb_eq (tgt := 52) hx hb dX11_isGrant_45 (by decide) (fun c45 => ?_) (fun c45 => ?_)
        · refine lv_aload_n hx hb dX11_isGrant_52 rfl (lv_at hl 0 rfl) ?_
          refine va_ldcS hx hb hown (hw.2.2.2.2.1 8 (by decide)).2 dX11_isGrant_53 ?_
          refine cSe (rV (As := [_]) ⟨hx, hb, hml, hown, hts⟩ hw (k_X11_isWord l o1 t8 htn (i := 8) (w := 8) (by omega) rfl) (cv_X11_isWord hts tw_1227 rfl rfl ⟨Nat.le_of_ble_eq_true rfl, Nat.le_of_ble_eq_true rfl⟩) (by decide) o1 rfl rfl hl.1 rfl (by first | exact Nat.le_of_ble_eq_true rfl | decide) dX11_isGrant_55 ⟨Nat.zero_le _, Nat.zero_le _⟩) ?_
          refine zb_eq (tgt := 65) hx hb dX11_isGrant_58 (by decide) (fun c58 => ?_) (fun c58 => ?_)
          · skip
            refine lv_iconst (v := (-1)) hx hb dX11_isGrant_65 (by decide) ?_
            refine lv_istore_n (lv' := [(2, _), (0, _), (1, _)]) hx hb dX11_isGrant_66 rfl hl (by decide) rfl (fun ls hl => ?_)
            refine lv_iload_n hx hb dX11_isGrant_67 rfl (lv_at hl 0 rfl) ?_
            refine lv_iconst (v := (-1)) hx hb dX11_isGrant_68 (by decide) ?_
            refine lv_icmp_ne (tgt := 74) hx hb dX11_isGrant_69 (by decide) (fun q => absurd (rfl) q) (fun c69 => ?_)
            refine lv_iconst (v := 0) hx hb dX11_isGrant_72 (by decide) ?_
            exact re_Q hx hb hr hlocks (rfl) hw hS dX11_isGrant_73 (⟨false, k, f, by rw [rGrant, if_neg (by rw [no48 c6 c19 c32 c45 c58]; decide)], rfl, by first | done | (rw [hc]; simp only [m1p, m2p, m3p, m4p, m5p]; try rfl)⟩)
          · skip
            refine lv_iconst (v := 4) hx hb dX11_isGrant_61 (by decide) ?_
            refine lv_goto (tgt := 66) hx hb dX11_isGrant_62 (by decide) ?_
            refine lv_istore_n (lv' := [(2, _), (0, _), (1, _)]) hx hb dX11_isGrant_66 rfl hl (by decide) rfl (fun ls hl => ?_)
            refine lv_iload_n hx hb dX11_isGrant_67 rfl (lv_at hl 0 rfl) ?_
            refine lv_iconst (v := (-1)) hx hb dX11_isGrant_68 (by decide) ?_
            refine lv_icmp_ne (tgt := 74) hx hb dX11_isGrant_69 (by decide) (fun c69 => ?_) (fun q => absurd q (by decide))
            obtain ⟨g1, g2⟩ := isW_V (a := 4) (b := 8) c58 (by decide)
            have hsv : VV tf tn k - 4 = 4 := by rw [g1]; decide
            refine lv_aload_n hx hb dX11_isGrant_74 rfl (lv_at hl 1 rfl) ?_
            refine cQv (rV (As := []) ⟨hx, hb, hml, hown, hts⟩ hw (k_X11_goesOn l o1 t8 htn (tkP_le _)) (cv_X11_goesOn hts tw_1214 rfl rfl ⟨Nat.le_of_ble_eq_true rfl, Nat.le_of_ble_eq_true rfl⟩) (by decide) o1 rfl rfl hl.1 rfl (by first | exact Nat.le_of_ble_eq_true rfl | decide) dX11_isGrant_75 ⟨Nat.zero_le _, Nat.zero_le _⟩) hw hS (fun w1 H locs hp75 hw hS => ?_)
            have o1_1 : w1 32 = .inr (9, [.ref (gad G 33), .ref (gad G 34), .ref (gad G 35), .int (nI (n)), .int (nI n1), .int z, .int hd, .int sd, .ref (gad G 36), .ref (gad G 37), .int (nI rn), .ref (gad G 38), .int (nI tn), .int (nI (tkF tf tn ((k + 1)))), .int (nI (tkP tf tn ((k + 1) + 1))), .int (nI (tkK tf tn ((k + 1)))), .int (wR tf tn ((k + 1))), .ref (gad G 39), .ref (gad G 40), .ref (gad G 41), .ref (gad G 42), .ref (gad G 43), .ref (gad G 44), .int (nI n2), .int (nI qn), .int iz, .int (bi im)]) := by rw [hp75]; exact vu_s
            have t8_1 : w1 38 = .inl (gI G, 120, .inl tf) := by rw [hp75]; exact vu_e (by decide) t8
            have a1_1 : w1 33 = .inl (gI G, 132, .inl f) := by rw [hp75]; exact vu_e (by decide) a1
            have x9_1 : w1 39 = .inl (gT G, 4, .inr (.inr (.inr (.inr (fun s => some (gK G s)))))) := by rw [hp75]; exact vu_e (by decide) x9
            refine lv_aload_n hx hb dX11_isGrant_78 rfl (lv_at hl 1 rfl) ?_
            refine lv_iload_n hx hb dX11_isGrant_79 rfl (lv_at hl 2 rfl) ?_
            refine lv_iconst (v := 4) hx hb dX11_isGrant_80 (by decide) ?_
            refine lv_iload_n hx hb dX11_isGrant_81 rfl (lv_at hl 0 rfl) ?_
            refine cQv (rV (As := [_, _, _]) ⟨hx, hb, hml, hown, hts⟩ hw (k_X11_sets l o1_1 a1_1 hn (ixm q 4) (by omega)) (cv_X11_sets hts tw_975 rfl rfl ⟨Nat.le_of_ble_eq_true rfl, Nat.le_of_ble_eq_true rfl⟩) (by decide) o1_1 rfl rfl hl.1 rfl (by first | exact Nat.le_of_ble_eq_true rfl | decide) dX11_isGrant_82 ⟨Nat.zero_le _, Nat.zero_le _⟩) hw hS (fun w2 H locs hp82 hw hS => ?_)
            have o1_2 : w2 32 = .inr (9, [.ref (gad G 33), .ref (gad G 34), .ref (gad G 35), .int (nI (n)), .int (nI n1), .int z, .int hd, .int sd, .ref (gad G 36), .ref (gad G 37), .int (nI rn), .ref (gad G 38), .int (nI tn), .int (nI (tkF tf tn ((k + 1)))), .int (nI (tkP tf tn ((k + 1) + 1))), .int (nI (tkK tf tn ((k + 1)))), .int (wR tf tn ((k + 1))), .ref (gad G 39), .ref (gad G 40), .ref (gad G 41), .ref (gad G 42), .ref (gad G 43), .ref (gad G 44), .int (nI n2), .int (nI qn), .int iz, .int (bi im)]) := by rw [hp82]; exact vu_e (by decide) o1_1
            have t8_2 : w2 38 = .inl (gI G, 120, .inl tf) := by rw [hp82]; exact vu_e (by decide) t8_1
            have a1_2 : w2 33 = .inl (gI G, 132, .inl (upd f (q * 11 + 4) (4))) := by rw [hp82]; exact vu_s
            have x9_2 : w2 39 = .inl (gT G, 4, .inr (.inr (.inr (.inr (fun s => some (gK G s)))))) := by rw [hp82]; exact vu_e (by decide) x9_1
            refine lv_iload_n hx hb dX11_isGrant_85 rfl (lv_at hl 0 rfl) ?_
            refine lv_iconst (v := 3) hx hb dX11_isGrant_86 (by decide) ?_
            refine lv_icmp_ne (tgt := 92) hx hb dX11_isGrant_87 (by decide) (fun c87 => ?_) (fun q => absurd q (by decide))
            refine lv_iload_n hx hb dX11_isGrant_92 rfl (lv_at hl 0 rfl) ?_
            refine lv_if_eq (tgt := 107) hx hb dX11_isGrant_93 (by decide) (fun q => absurd q (by decide)) (fun c93 => ?_)
            refine lv_aload_n hx hb dX11_isGrant_96 rfl (lv_at hl 1 rfl) ?_
            refine lv_iload_n hx hb dX11_isGrant_97 rfl (lv_at hl 2 rfl) ?_
            refine lv_iconst (v := 5) hx hb dX11_isGrant_98 (by decide) ?_
            refine cQi (rV (As := [_, _]) ⟨hx, hb, hml, hown, hts⟩ hw (k_X11_isTraitRead l o1_2 t8_2 htn a1_2 hn x9_2 (q := q) (fd := 5) hq (by omega)) (cv_X11_isTraitRead hts tw_1247 rfl rfl ⟨Nat.le_of_ble_eq_true rfl, Nat.le_of_ble_eq_true rfl⟩) (by decide) o1_2 rfl rfl hl.1 rfl (by first | exact Nat.le_of_ble_eq_true rfl | decide) dX11_isGrant_99 ⟨Nat.zero_le _, Nat.zero_le _⟩) hw hS (fun r99 w3 H locs hp99 hw hS => ?_)
            obtain ⟨b99, kz99, f99, hX99, rfl, hp99⟩ := hp99
            have o1_3 : w3 32 = .inr (9, [.ref (gad G 33), .ref (gad G 34), .ref (gad G 35), .int (nI (n)), .int (nI n1), .int z, .int hd, .int sd, .ref (gad G 36), .ref (gad G 37), .int (nI rn), .ref (gad G 38), .int (nI tn), .int (nI (tkF tf tn (kz99))), .int (nI (tkP tf tn (kz99 + 1))), .int (nI (tkK tf tn (kz99))), .int (wR tf tn (kz99)), .ref (gad G 39), .ref (gad G 40), .ref (gad G 41), .ref (gad G 42), .ref (gad G 43), .ref (gad G 44), .int (nI n2), .int (nI qn), .int iz, .int (bi im)]) := by rw [hp99]; exact D2_j
            have t8_3 : w3 38 = .inl (gI G, 120, .inl tf) := by rw [hp99]; exact D2_o (by decide) (by decide) t8_2
            have a1_3 : w3 33 = .inl (gI G, 132, .inl f99) := by rw [hp99]; exact D2_i (by decide)
            have x9_3 : w3 39 = .inl (gT G, 4, .inr (.inr (.inr (.inr (fun s => some (gK G s)))))) := by rw [hp99]; exact D2_o (by decide) (by decide) x9_2
            refine zb_ne (tgt := 107) hx hb dX11_isGrant_102 (by decide) (fun c102 => ?_) (fun c102 => ?_)
            · refine lv_aload_n hx hb dX11_isGrant_107 rfl (lv_at hl 1 rfl) ?_
              refine lv_iload_n hx hb dX11_isGrant_108 rfl (lv_at hl 2 rfl) ?_
              refine lv_bipush (v := 6) hx hb dX11_isGrant_109 (by decide) ?_
              refine lv_iconst (v := 0) hx hb dX11_isGrant_111 (by decide) ?_
              refine lv_sipush (v := 999) hx hb dX11_isGrant_112 (by decide) ?_
              refine cQi (rV (As := [_, _, _, _]) ⟨hx, hb, hml, hown, hts⟩ hw (k_X11_number l o1_3 t8_3 htn a1_3 hn (q := q) (fd := 6) hq (by omega) (by decide)) (cv_X11_number hts tw_1243 rfl rfl ⟨Nat.le_of_ble_eq_true rfl, Nat.le_of_ble_eq_true rfl⟩) (by decide) o1_3 rfl rfl hl.1 rfl (by first | exact Nat.le_of_ble_eq_true rfl | decide) dX11_isGrant_115 ⟨Nat.zero_le _, Nat.zero_le _⟩) hw hS (fun r115 w4 H locs hp115 hw hS => ?_)
              obtain ⟨b115, kz115, f115, hX115, rfl, hp115⟩ := hp115
              have o1_4 : w4 32 = .inr (9, [.ref (gad G 33), .ref (gad G 34), .ref (gad G 35), .int (nI (n)), .int (nI n1), .int z, .int hd, .int sd, .ref (gad G 36), .ref (gad G 37), .int (nI rn), .ref (gad G 38), .int (nI tn), .int (nI (tkF tf tn (kz115))), .int (nI (tkP tf tn (kz115 + 1))), .int (nI (tkK tf tn (kz115))), .int (wR tf tn (kz115)), .ref (gad G 39), .ref (gad G 40), .ref (gad G 41), .ref (gad G 42), .ref (gad G 43), .ref (gad G 44), .int (nI n2), .int (nI qn), .int iz, .int (bi im)]) := by rw [hp115]; exact D2_j
              have t8_4 : w4 38 = .inl (gI G, 120, .inl tf) := by rw [hp115]; exact D2_o (by decide) (by decide) t8_3
              have a1_4 : w4 33 = .inl (gI G, 132, .inl f115) := by rw [hp115]; exact D2_i (by decide)
              have x9_4 : w4 39 = .inl (gT G, 4, .inr (.inr (.inr (.inr (fun s => some (gK G s)))))) := by rw [hp115]; exact D2_o (by decide) (by decide) x9_3
              refine zb_ne (tgt := 123) hx hb dX11_isGrant_118 (by decide) (fun c118 => ?_) (fun c118 => ?_)
              · refine lv_iload_n hx hb dX11_isGrant_123 rfl (lv_at hl 0 rfl) ?_
                refine lv_if_eq (tgt := 154) hx hb dX11_isGrant_124 (by decide) (fun q => absurd q (by decide)) (fun c124 => ?_)
                refine lv_iload_n hx hb dX11_isGrant_127 rfl (lv_at hl 0 rfl) ?_
                refine lv_iconst (v := 4) hx hb dX11_isGrant_128 (by decide) ?_
                refine lv_icmp_eq (tgt := 154) hx hb dX11_isGrant_129 (by decide) (fun c129 => ?_) (fun q => absurd (rfl) q)
                skip
                refine lv_iconst (v := 1) hx hb dX11_isGrant_154 (by decide) ?_
                refine lv_goto (tgt := 159) hx hb dX11_isGrant_155 (by decide) ?_
                exact re_Q hx hb hr hlocks (rfl) hw hS dX11_isGrant_159 (⟨true, kz115, f115, by rw [rGrant, if_pos g2, hsv, rGr_4, bnd_t hX99 c102, bnd_t hX115 c118], rfl, by rw [hp115, hp99, hp82, hp75]; first | done | (rw [hc]; simp only [m1p, m2p, m3p, m4p, m5p]; try rfl)⟩)
              · refine lv_iconst (v := 0) hx hb dX11_isGrant_121 (by decide) ?_
                exact re_Q hx hb hr hlocks (rfl) hw hS dX11_isGrant_122 (⟨false, kz115, f115, by rw [rGrant, if_pos g2, hsv, rGr_4, bnd_t hX99 c102, bnd_f hX115 c118], rfl, by rw [hp115, hp99, hp82, hp75]; first | done | (rw [hc]; simp only [m1p, m2p, m3p, m4p, m5p]; try rfl)⟩)
            · refine lv_iconst (v := 0) hx hb dX11_isGrant_105 (by decide) ?_
              exact re_Q hx hb hr hlocks (rfl) hw hS dX11_isGrant_106 (⟨false, kz99, f99, by rw [rGrant, if_pos g2, hsv, rGr_4, bnd_f hX99 c102], rfl, by rw [hp99, hp82, hp75]; first | done | (rw [hc]; simp only [m1p, m2p, m3p, m4p, m5p]; try rfl)⟩)
        · skip
          refine lv_iconst (v := 3) hx hb dX11_isGrant_48 (by decide) ?_
          refine lv_goto (tgt := 66) hx hb dX11_isGrant_49 (by decide) ?_
          refine lv_istore_n (lv' := [(2, _), (0, _), (1, _)]) hx hb dX11_isGrant_66 rfl hl (by decide) rfl (fun ls hl => ?_)
          refine lv_iload_n hx hb dX11_isGrant_67 rfl (lv_at hl 0 rfl) ?_
          refine lv_iconst (v := (-1)) hx hb dX11_isGrant_68 (by decide) ?_
          refine lv_icmp_ne (tgt := 74) hx hb dX11_isGrant_69 (by decide) (fun c69 => ?_) (fun q => absurd q (by decide))
          obtain ⟨g1, g2⟩ := isW_V (a := 4) (b := 8) c45 (by decide)
          have hsv : VV tf tn k - 4 = 3 := by rw [g1]; decide
          refine lv_aload_n hx hb dX11_isGrant_74 rfl (lv_at hl 1 rfl) ?_
          refine cQv (rV (As := []) ⟨hx, hb, hml, hown, hts⟩ hw (k_X11_goesOn l o1 t8 htn (tkP_le _)) (cv_X11_goesOn hts tw_1214 rfl rfl ⟨Nat.le_of_ble_eq_true rfl, Nat.le_of_ble_eq_true rfl⟩) (by decide) o1 rfl rfl hl.1 rfl (by first | exact Nat.le_of_ble_eq_true rfl | decide) dX11_isGrant_75 ⟨Nat.zero_le _, Nat.zero_le _⟩) hw hS (fun w5 H locs hp75 hw hS => ?_)
          have o1_5 : w5 32 = .inr (9, [.ref (gad G 33), .ref (gad G 34), .ref (gad G 35), .int (nI (n)), .int (nI n1), .int z, .int hd, .int sd, .ref (gad G 36), .ref (gad G 37), .int (nI rn), .ref (gad G 38), .int (nI tn), .int (nI (tkF tf tn ((k + 1)))), .int (nI (tkP tf tn ((k + 1) + 1))), .int (nI (tkK tf tn ((k + 1)))), .int (wR tf tn ((k + 1))), .ref (gad G 39), .ref (gad G 40), .ref (gad G 41), .ref (gad G 42), .ref (gad G 43), .ref (gad G 44), .int (nI n2), .int (nI qn), .int iz, .int (bi im)]) := by rw [hp75]; exact vu_s
          have t8_5 : w5 38 = .inl (gI G, 120, .inl tf) := by rw [hp75]; exact vu_e (by decide) t8
          have a1_5 : w5 33 = .inl (gI G, 132, .inl f) := by rw [hp75]; exact vu_e (by decide) a1
          have x9_5 : w5 39 = .inl (gT G, 4, .inr (.inr (.inr (.inr (fun s => some (gK G s)))))) := by rw [hp75]; exact vu_e (by decide) x9
          refine lv_aload_n hx hb dX11_isGrant_78 rfl (lv_at hl 1 rfl) ?_
          refine lv_iload_n hx hb dX11_isGrant_79 rfl (lv_at hl 2 rfl) ?_
          refine lv_iconst (v := 4) hx hb dX11_isGrant_80 (by decide) ?_
          refine lv_iload_n hx hb dX11_isGrant_81 rfl (lv_at hl 0 rfl) ?_
          refine cQv (rV (As := [_, _, _]) ⟨hx, hb, hml, hown, hts⟩ hw (k_X11_sets l o1_5 a1_5 hn (ixm q 4) (by omega)) (cv_X11_sets hts tw_975 rfl rfl ⟨Nat.le_of_ble_eq_true rfl, Nat.le_of_ble_eq_true rfl⟩) (by decide) o1_5 rfl rfl hl.1 rfl (by first | exact Nat.le_of_ble_eq_true rfl | decide) dX11_isGrant_82 ⟨Nat.zero_le _, Nat.zero_le _⟩) hw hS (fun w6 H locs hp82 hw hS => ?_)
          have o1_6 : w6 32 = .inr (9, [.ref (gad G 33), .ref (gad G 34), .ref (gad G 35), .int (nI (n)), .int (nI n1), .int z, .int hd, .int sd, .ref (gad G 36), .ref (gad G 37), .int (nI rn), .ref (gad G 38), .int (nI tn), .int (nI (tkF tf tn ((k + 1)))), .int (nI (tkP tf tn ((k + 1) + 1))), .int (nI (tkK tf tn ((k + 1)))), .int (wR tf tn ((k + 1))), .ref (gad G 39), .ref (gad G 40), .ref (gad G 41), .ref (gad G 42), .ref (gad G 43), .ref (gad G 44), .int (nI n2), .int (nI qn), .int iz, .int (bi im)]) := by rw [hp82]; exact vu_e (by decide) o1_5
          have t8_6 : w6 38 = .inl (gI G, 120, .inl tf) := by rw [hp82]; exact vu_e (by decide) t8_5
          have a1_6 : w6 33 = .inl (gI G, 132, .inl (upd f (q * 11 + 4) (3))) := by rw [hp82]; exact vu_s
          have x9_6 : w6 39 = .inl (gT G, 4, .inr (.inr (.inr (.inr (fun s => some (gK G s)))))) := by rw [hp82]; exact vu_e (by decide) x9_5
          refine lv_iload_n hx hb dX11_isGrant_85 rfl (lv_at hl 0 rfl) ?_
          refine lv_iconst (v := 3) hx hb dX11_isGrant_86 (by decide) ?_
          refine lv_icmp_ne (tgt := 92) hx hb dX11_isGrant_87 (by decide) (fun q => absurd (rfl) q) (fun c87 => ?_)
          refine lv_iconst (v := 1) hx hb dX11_isGrant_90 (by decide) ?_
          exact re_Q hx hb hr hlocks (rfl) hw hS dX11_isGrant_91 (⟨true, (k + 1), (upd f (q * 11 + 4) (3)), by rw [rGrant, if_pos g2, hsv, rGr_3], rfl, by rw [hp82, hp75]; first | done | (rw [hc]; simp only [m1p, m2p, m3p, m4p, m5p]; try rfl)⟩)
      · skip
        refine lv_iconst (v := 2) hx hb dX11_isGrant_35 (by decide) ?_
        refine lv_goto (tgt := 66) hx hb dX11_isGrant_36 (by decide) ?_
        refine lv_istore_n (lv' := [(2, _), (0, _), (1, _)]) hx hb dX11_isGrant_66 rfl hl (by decide) rfl (fun ls hl => ?_)
        refine lv_iload_n hx hb dX11_isGrant_67 rfl (lv_at hl 0 rfl) ?_
        refine lv_iconst (v := (-1)) hx hb dX11_isGrant_68 (by decide) ?_
        refine lv_icmp_ne (tgt := 74) hx hb dX11_isGrant_69 (by decide) (fun c69 => ?_) (fun q => absurd q (by decide))
        obtain ⟨g1, g2⟩ := isW_V (a := 4) (b := 8) c32 (by decide)
        have hsv : VV tf tn k - 4 = 2 := by rw [g1]; decide
        refine lv_aload_n hx hb dX11_isGrant_74 rfl (lv_at hl 1 rfl) ?_
        refine cQv (rV (As := []) ⟨hx, hb, hml, hown, hts⟩ hw (k_X11_goesOn l o1 t8 htn (tkP_le _)) (cv_X11_goesOn hts tw_1214 rfl rfl ⟨Nat.le_of_ble_eq_true rfl, Nat.le_of_ble_eq_true rfl⟩) (by decide) o1 rfl rfl hl.1 rfl (by first | exact Nat.le_of_ble_eq_true rfl | decide) dX11_isGrant_75 ⟨Nat.zero_le _, Nat.zero_le _⟩) hw hS (fun w7 H locs hp75 hw hS => ?_)
        have o1_7 : w7 32 = .inr (9, [.ref (gad G 33), .ref (gad G 34), .ref (gad G 35), .int (nI (n)), .int (nI n1), .int z, .int hd, .int sd, .ref (gad G 36), .ref (gad G 37), .int (nI rn), .ref (gad G 38), .int (nI tn), .int (nI (tkF tf tn ((k + 1)))), .int (nI (tkP tf tn ((k + 1) + 1))), .int (nI (tkK tf tn ((k + 1)))), .int (wR tf tn ((k + 1))), .ref (gad G 39), .ref (gad G 40), .ref (gad G 41), .ref (gad G 42), .ref (gad G 43), .ref (gad G 44), .int (nI n2), .int (nI qn), .int iz, .int (bi im)]) := by rw [hp75]; exact vu_s
        have t8_7 : w7 38 = .inl (gI G, 120, .inl tf) := by rw [hp75]; exact vu_e (by decide) t8
        have a1_7 : w7 33 = .inl (gI G, 132, .inl f) := by rw [hp75]; exact vu_e (by decide) a1
        have x9_7 : w7 39 = .inl (gT G, 4, .inr (.inr (.inr (.inr (fun s => some (gK G s)))))) := by rw [hp75]; exact vu_e (by decide) x9
        refine lv_aload_n hx hb dX11_isGrant_78 rfl (lv_at hl 1 rfl) ?_
        refine lv_iload_n hx hb dX11_isGrant_79 rfl (lv_at hl 2 rfl) ?_
        refine lv_iconst (v := 4) hx hb dX11_isGrant_80 (by decide) ?_
        refine lv_iload_n hx hb dX11_isGrant_81 rfl (lv_at hl 0 rfl) ?_
        refine cQv (rV (As := [_, _, _]) ⟨hx, hb, hml, hown, hts⟩ hw (k_X11_sets l o1_7 a1_7 hn (ixm q 4) (by omega)) (cv_X11_sets hts tw_975 rfl rfl ⟨Nat.le_of_ble_eq_true rfl, Nat.le_of_ble_eq_true rfl⟩) (by decide) o1_7 rfl rfl hl.1 rfl (by first | exact Nat.le_of_ble_eq_true rfl | decide) dX11_isGrant_82 ⟨Nat.zero_le _, Nat.zero_le _⟩) hw hS (fun w8 H locs hp82 hw hS => ?_)
        have o1_8 : w8 32 = .inr (9, [.ref (gad G 33), .ref (gad G 34), .ref (gad G 35), .int (nI (n)), .int (nI n1), .int z, .int hd, .int sd, .ref (gad G 36), .ref (gad G 37), .int (nI rn), .ref (gad G 38), .int (nI tn), .int (nI (tkF tf tn ((k + 1)))), .int (nI (tkP tf tn ((k + 1) + 1))), .int (nI (tkK tf tn ((k + 1)))), .int (wR tf tn ((k + 1))), .ref (gad G 39), .ref (gad G 40), .ref (gad G 41), .ref (gad G 42), .ref (gad G 43), .ref (gad G 44), .int (nI n2), .int (nI qn), .int iz, .int (bi im)]) := by rw [hp82]; exact vu_e (by decide) o1_7
        have t8_8 : w8 38 = .inl (gI G, 120, .inl tf) := by rw [hp82]; exact vu_e (by decide) t8_7
        have a1_8 : w8 33 = .inl (gI G, 132, .inl (upd f (q * 11 + 4) (2))) := by rw [hp82]; exact vu_s
        have x9_8 : w8 39 = .inl (gT G, 4, .inr (.inr (.inr (.inr (fun s => some (gK G s)))))) := by rw [hp82]; exact vu_e (by decide) x9_7
        refine lv_iload_n hx hb dX11_isGrant_85 rfl (lv_at hl 0 rfl) ?_
        refine lv_iconst (v := 3) hx hb dX11_isGrant_86 (by decide) ?_
        refine lv_icmp_ne (tgt := 92) hx hb dX11_isGrant_87 (by decide) (fun c87 => ?_) (fun q => absurd q (by decide))
        refine lv_iload_n hx hb dX11_isGrant_92 rfl (lv_at hl 0 rfl) ?_
        refine lv_if_eq (tgt := 107) hx hb dX11_isGrant_93 (by decide) (fun q => absurd q (by decide)) (fun c93 => ?_)
        refine lv_aload_n hx hb dX11_isGrant_96 rfl (lv_at hl 1 rfl) ?_
        refine lv_iload_n hx hb dX11_isGrant_97 rfl (lv_at hl 2 rfl) ?_
        refine lv_iconst (v := 5) hx hb dX11_isGrant_98 (by decide) ?_
        refine cQi (rV (As := [_, _]) ⟨hx, hb, hml, hown, hts⟩ hw (k_X11_isTraitRead l o1_8 t8_8 htn a1_8 hn x9_8 (q := q) (fd := 5) hq (by omega)) (cv_X11_isTraitRead hts tw_1247 rfl rfl ⟨Nat.le_of_ble_eq_true rfl, Nat.le_of_ble_eq_true rfl⟩) (by decide) o1_8 rfl rfl hl.1 rfl (by first | exact Nat.le_of_ble_eq_true rfl | decide) dX11_isGrant_99 ⟨Nat.zero_le _, Nat.zero_le _⟩) hw hS (fun r99 w9 H locs hp99 hw hS => ?_)
        obtain ⟨b99, kz99, f99, hX99, rfl, hp99⟩ := hp99
        have o1_9 : w9 32 = .inr (9, [.ref (gad G 33), .ref (gad G 34), .ref (gad G 35), .int (nI (n)), .int (nI n1), .int z, .int hd, .int sd, .ref (gad G 36), .ref (gad G 37), .int (nI rn), .ref (gad G 38), .int (nI tn), .int (nI (tkF tf tn (kz99))), .int (nI (tkP tf tn (kz99 + 1))), .int (nI (tkK tf tn (kz99))), .int (wR tf tn (kz99)), .ref (gad G 39), .ref (gad G 40), .ref (gad G 41), .ref (gad G 42), .ref (gad G 43), .ref (gad G 44), .int (nI n2), .int (nI qn), .int iz, .int (bi im)]) := by rw [hp99]; exact D2_j
        have t8_9 : w9 38 = .inl (gI G, 120, .inl tf) := by rw [hp99]; exact D2_o (by decide) (by decide) t8_8
        have a1_9 : w9 33 = .inl (gI G, 132, .inl f99) := by rw [hp99]; exact D2_i (by decide)
        have x9_9 : w9 39 = .inl (gT G, 4, .inr (.inr (.inr (.inr (fun s => some (gK G s)))))) := by rw [hp99]; exact D2_o (by decide) (by decide) x9_8
        refine zb_ne (tgt := 107) hx hb dX11_isGrant_102 (by decide) (fun c102 => ?_) (fun c102 => ?_)
        · refine lv_aload_n hx hb dX11_isGrant_107 rfl (lv_at hl 1 rfl) ?_
          refine lv_iload_n hx hb dX11_isGrant_108 rfl (lv_at hl 2 rfl) ?_
          refine lv_bipush (v := 6) hx hb dX11_isGrant_109 (by decide) ?_
          refine lv_iconst (v := 0) hx hb dX11_isGrant_111 (by decide) ?_
          refine lv_sipush (v := 999) hx hb dX11_isGrant_112 (by decide) ?_
          refine cQi (rV (As := [_, _, _, _]) ⟨hx, hb, hml, hown, hts⟩ hw (k_X11_number l o1_9 t8_9 htn a1_9 hn (q := q) (fd := 6) hq (by omega) (by decide)) (cv_X11_number hts tw_1243 rfl rfl ⟨Nat.le_of_ble_eq_true rfl, Nat.le_of_ble_eq_true rfl⟩) (by decide) o1_9 rfl rfl hl.1 rfl (by first | exact Nat.le_of_ble_eq_true rfl | decide) dX11_isGrant_115 ⟨Nat.zero_le _, Nat.zero_le _⟩) hw hS (fun r115 w10 H locs hp115 hw hS => ?_)
          obtain ⟨b115, kz115, f115, hX115, rfl, hp115⟩ := hp115
          have o1_10 : w10 32 = .inr (9, [.ref (gad G 33), .ref (gad G 34), .ref (gad G 35), .int (nI (n)), .int (nI n1), .int z, .int hd, .int sd, .ref (gad G 36), .ref (gad G 37), .int (nI rn), .ref (gad G 38), .int (nI tn), .int (nI (tkF tf tn (kz115))), .int (nI (tkP tf tn (kz115 + 1))), .int (nI (tkK tf tn (kz115))), .int (wR tf tn (kz115)), .ref (gad G 39), .ref (gad G 40), .ref (gad G 41), .ref (gad G 42), .ref (gad G 43), .ref (gad G 44), .int (nI n2), .int (nI qn), .int iz, .int (bi im)]) := by rw [hp115]; exact D2_j
          have t8_10 : w10 38 = .inl (gI G, 120, .inl tf) := by rw [hp115]; exact D2_o (by decide) (by decide) t8_9
          have a1_10 : w10 33 = .inl (gI G, 132, .inl f115) := by rw [hp115]; exact D2_i (by decide)
          have x9_10 : w10 39 = .inl (gT G, 4, .inr (.inr (.inr (.inr (fun s => some (gK G s)))))) := by rw [hp115]; exact D2_o (by decide) (by decide) x9_9
          refine zb_ne (tgt := 123) hx hb dX11_isGrant_118 (by decide) (fun c118 => ?_) (fun c118 => ?_)
          · refine lv_iload_n hx hb dX11_isGrant_123 rfl (lv_at hl 0 rfl) ?_
            refine lv_if_eq (tgt := 154) hx hb dX11_isGrant_124 (by decide) (fun q => absurd q (by decide)) (fun c124 => ?_)
            refine lv_iload_n hx hb dX11_isGrant_127 rfl (lv_at hl 0 rfl) ?_
            refine lv_iconst (v := 4) hx hb dX11_isGrant_128 (by decide) ?_
            refine lv_icmp_eq (tgt := 154) hx hb dX11_isGrant_129 (by decide) (fun q => absurd q (by decide)) (fun c129 => ?_)
            refine lv_aload_n hx hb dX11_isGrant_132 rfl (lv_at hl 1 rfl) ?_
            refine lv_iload_n hx hb dX11_isGrant_133 rfl (lv_at hl 2 rfl) ?_
            refine lv_bipush (v := 7) hx hb dX11_isGrant_134 (by decide) ?_
            refine lv_iload_n hx hb dX11_isGrant_136 rfl (lv_at hl 0 rfl) ?_
            refine lv_iconst (v := 1) hx hb dX11_isGrant_137 (by decide) ?_
            refine lv_icmp_ne (tgt := 145) hx hb dX11_isGrant_138 (by decide) (fun c138 => ?_) (fun q => absurd q (by decide))
            refine lv_iconst (v := 0) hx hb dX11_isGrant_145 (by decide) ?_
            refine lv_bipush (v := 99) hx hb dX11_isGrant_146 (by decide) ?_
            refine cQi (rV (As := [_, _, _, _]) ⟨hx, hb, hml, hown, hts⟩ hw (k_X11_number l o1_10 t8_10 htn a1_10 hn (q := q) (fd := 7) hq (by omega) (by decide)) (cv_X11_number hts tw_1243 rfl rfl ⟨Nat.le_of_ble_eq_true rfl, Nat.le_of_ble_eq_true rfl⟩) (by decide) o1_10 rfl rfl hl.1 rfl (by first | exact Nat.le_of_ble_eq_true rfl | decide) dX11_isGrant_148 ⟨Nat.zero_le _, Nat.zero_le _⟩) hw hS (fun r148 w11 H locs hp148 hw hS => ?_)
            obtain ⟨b148, kz148, f148, hX148, rfl, hp148⟩ := hp148
            have o1_11 : w11 32 = .inr (9, [.ref (gad G 33), .ref (gad G 34), .ref (gad G 35), .int (nI (n)), .int (nI n1), .int z, .int hd, .int sd, .ref (gad G 36), .ref (gad G 37), .int (nI rn), .ref (gad G 38), .int (nI tn), .int (nI (tkF tf tn (kz148))), .int (nI (tkP tf tn (kz148 + 1))), .int (nI (tkK tf tn (kz148))), .int (wR tf tn (kz148)), .ref (gad G 39), .ref (gad G 40), .ref (gad G 41), .ref (gad G 42), .ref (gad G 43), .ref (gad G 44), .int (nI n2), .int (nI qn), .int iz, .int (bi im)]) := by rw [hp148]; exact D2_j
            have t8_11 : w11 38 = .inl (gI G, 120, .inl tf) := by rw [hp148]; exact D2_o (by decide) (by decide) t8_10
            have a1_11 : w11 33 = .inl (gI G, 132, .inl f148) := by rw [hp148]; exact D2_i (by decide)
            have x9_11 : w11 39 = .inl (gT G, 4, .inr (.inr (.inr (.inr (fun s => some (gK G s)))))) := by rw [hp148]; exact D2_o (by decide) (by decide) x9_10
            refine zb_eq (tgt := 158) hx hb dX11_isGrant_151 (by decide) (fun c151 => ?_) (fun c151 => ?_)
            · refine lv_iconst (v := 0) hx hb dX11_isGrant_158 (by decide) ?_
              exact re_Q hx hb hr hlocks (rfl) hw hS dX11_isGrant_159 (⟨false, kz148, f148, by rw [rGrant, if_pos g2, hsv, rGr_2, bnd_t hX99 c102, bnd_t hX115 c118, hX148, c151], rfl, by rw [hp148, hp115, hp99, hp82, hp75]; first | done | (rw [hc]; simp only [m1p, m2p, m3p, m4p, m5p]; try rfl)⟩)
            · skip
              refine lv_iconst (v := 1) hx hb dX11_isGrant_154 (by decide) ?_
              refine lv_goto (tgt := 159) hx hb dX11_isGrant_155 (by decide) ?_
              exact re_Q hx hb hr hlocks (rfl) hw hS dX11_isGrant_159 (⟨true, kz148, f148, by rw [rGrant, if_pos g2, hsv, rGr_2, bnd_t hX99 c102, bnd_t hX115 c118, hX148, c151], rfl, by rw [hp148, hp115, hp99, hp82, hp75]; first | done | (rw [hc]; simp only [m1p, m2p, m3p, m4p, m5p]; try rfl)⟩)
          · refine lv_iconst (v := 0) hx hb dX11_isGrant_121 (by decide) ?_
            exact re_Q hx hb hr hlocks (rfl) hw hS dX11_isGrant_122 (⟨false, kz115, f115, by rw [rGrant, if_pos g2, hsv, rGr_2, bnd_t hX99 c102, bnd_f hX115 c118], rfl, by rw [hp115, hp99, hp82, hp75]; first | done | (rw [hc]; simp only [m1p, m2p, m3p, m4p, m5p]; try rfl)⟩)
        · refine lv_iconst (v := 0) hx hb dX11_isGrant_105 (by decide) ?_
          exact re_Q hx hb hr hlocks (rfl) hw hS dX11_isGrant_106 (⟨false, kz99, f99, by rw [rGrant, if_pos g2, hsv, rGr_2, bnd_f hX99 c102], rfl, by rw [hp99, hp82, hp75]; first | done | (rw [hc]; simp only [m1p, m2p, m3p, m4p, m5p]; try rfl)⟩)
    · skip
      refine lv_iconst (v := 1) hx hb dX11_isGrant_22 (by decide) ?_
      refine lv_goto (tgt := 66) hx hb dX11_isGrant_23 (by decide) ?_
      refine lv_istore_n (lv' := [(2, _), (0, _), (1, _)]) hx hb dX11_isGrant_66 rfl hl (by decide) rfl (fun ls hl => ?_)
      refine lv_iload_n hx hb dX11_isGrant_67 rfl (lv_at hl 0 rfl) ?_
      refine lv_iconst (v := (-1)) hx hb dX11_isGrant_68 (by decide) ?_
      refine lv_icmp_ne (tgt := 74) hx hb dX11_isGrant_69 (by decide) (fun c69 => ?_) (fun q => absurd q (by decide))
      obtain ⟨g1, g2⟩ := isW_V (a := 4) (b := 8) c19 (by decide)
      have hsv : VV tf tn k - 4 = 1 := by rw [g1]; decide
      refine lv_aload_n hx hb dX11_isGrant_74 rfl (lv_at hl 1 rfl) ?_
      refine cQv (rV (As := []) ⟨hx, hb, hml, hown, hts⟩ hw (k_X11_goesOn l o1 t8 htn (tkP_le _)) (cv_X11_goesOn hts tw_1214 rfl rfl ⟨Nat.le_of_ble_eq_true rfl, Nat.le_of_ble_eq_true rfl⟩) (by decide) o1 rfl rfl hl.1 rfl (by first | exact Nat.le_of_ble_eq_true rfl | decide) dX11_isGrant_75 ⟨Nat.zero_le _, Nat.zero_le _⟩) hw hS (fun w12 H locs hp75 hw hS => ?_)
      have o1_12 : w12 32 = .inr (9, [.ref (gad G 33), .ref (gad G 34), .ref (gad G 35), .int (nI (n)), .int (nI n1), .int z, .int hd, .int sd, .ref (gad G 36), .ref (gad G 37), .int (nI rn), .ref (gad G 38), .int (nI tn), .int (nI (tkF tf tn ((k + 1)))), .int (nI (tkP tf tn ((k + 1) + 1))), .int (nI (tkK tf tn ((k + 1)))), .int (wR tf tn ((k + 1))), .ref (gad G 39), .ref (gad G 40), .ref (gad G 41), .ref (gad G 42), .ref (gad G 43), .ref (gad G 44), .int (nI n2), .int (nI qn), .int iz, .int (bi im)]) := by rw [hp75]; exact vu_s
      have t8_12 : w12 38 = .inl (gI G, 120, .inl tf) := by rw [hp75]; exact vu_e (by decide) t8
      have a1_12 : w12 33 = .inl (gI G, 132, .inl f) := by rw [hp75]; exact vu_e (by decide) a1
      have x9_12 : w12 39 = .inl (gT G, 4, .inr (.inr (.inr (.inr (fun s => some (gK G s)))))) := by rw [hp75]; exact vu_e (by decide) x9
      refine lv_aload_n hx hb dX11_isGrant_78 rfl (lv_at hl 1 rfl) ?_
      refine lv_iload_n hx hb dX11_isGrant_79 rfl (lv_at hl 2 rfl) ?_
      refine lv_iconst (v := 4) hx hb dX11_isGrant_80 (by decide) ?_
      refine lv_iload_n hx hb dX11_isGrant_81 rfl (lv_at hl 0 rfl) ?_
      refine cQv (rV (As := [_, _, _]) ⟨hx, hb, hml, hown, hts⟩ hw (k_X11_sets l o1_12 a1_12 hn (ixm q 4) (by omega)) (cv_X11_sets hts tw_975 rfl rfl ⟨Nat.le_of_ble_eq_true rfl, Nat.le_of_ble_eq_true rfl⟩) (by decide) o1_12 rfl rfl hl.1 rfl (by first | exact Nat.le_of_ble_eq_true rfl | decide) dX11_isGrant_82 ⟨Nat.zero_le _, Nat.zero_le _⟩) hw hS (fun w13 H locs hp82 hw hS => ?_)
      have o1_13 : w13 32 = .inr (9, [.ref (gad G 33), .ref (gad G 34), .ref (gad G 35), .int (nI (n)), .int (nI n1), .int z, .int hd, .int sd, .ref (gad G 36), .ref (gad G 37), .int (nI rn), .ref (gad G 38), .int (nI tn), .int (nI (tkF tf tn ((k + 1)))), .int (nI (tkP tf tn ((k + 1) + 1))), .int (nI (tkK tf tn ((k + 1)))), .int (wR tf tn ((k + 1))), .ref (gad G 39), .ref (gad G 40), .ref (gad G 41), .ref (gad G 42), .ref (gad G 43), .ref (gad G 44), .int (nI n2), .int (nI qn), .int iz, .int (bi im)]) := by rw [hp82]; exact vu_e (by decide) o1_12
      have t8_13 : w13 38 = .inl (gI G, 120, .inl tf) := by rw [hp82]; exact vu_e (by decide) t8_12
      have a1_13 : w13 33 = .inl (gI G, 132, .inl (upd f (q * 11 + 4) (1))) := by rw [hp82]; exact vu_s
      have x9_13 : w13 39 = .inl (gT G, 4, .inr (.inr (.inr (.inr (fun s => some (gK G s)))))) := by rw [hp82]; exact vu_e (by decide) x9_12
      refine lv_iload_n hx hb dX11_isGrant_85 rfl (lv_at hl 0 rfl) ?_
      refine lv_iconst (v := 3) hx hb dX11_isGrant_86 (by decide) ?_
      refine lv_icmp_ne (tgt := 92) hx hb dX11_isGrant_87 (by decide) (fun c87 => ?_) (fun q => absurd q (by decide))
      refine lv_iload_n hx hb dX11_isGrant_92 rfl (lv_at hl 0 rfl) ?_
      refine lv_if_eq (tgt := 107) hx hb dX11_isGrant_93 (by decide) (fun q => absurd q (by decide)) (fun c93 => ?_)
      refine lv_aload_n hx hb dX11_isGrant_96 rfl (lv_at hl 1 rfl) ?_
      refine lv_iload_n hx hb dX11_isGrant_97 rfl (lv_at hl 2 rfl) ?_
      refine lv_iconst (v := 5) hx hb dX11_isGrant_98 (by decide) ?_
      refine cQi (rV (As := [_, _]) ⟨hx, hb, hml, hown, hts⟩ hw (k_X11_isTraitRead l o1_13 t8_13 htn a1_13 hn x9_13 (q := q) (fd := 5) hq (by omega)) (cv_X11_isTraitRead hts tw_1247 rfl rfl ⟨Nat.le_of_ble_eq_true rfl, Nat.le_of_ble_eq_true rfl⟩) (by decide) o1_13 rfl rfl hl.1 rfl (by first | exact Nat.le_of_ble_eq_true rfl | decide) dX11_isGrant_99 ⟨Nat.zero_le _, Nat.zero_le _⟩) hw hS (fun r99 w14 H locs hp99 hw hS => ?_)
      obtain ⟨b99, kz99, f99, hX99, rfl, hp99⟩ := hp99
      have o1_14 : w14 32 = .inr (9, [.ref (gad G 33), .ref (gad G 34), .ref (gad G 35), .int (nI (n)), .int (nI n1), .int z, .int hd, .int sd, .ref (gad G 36), .ref (gad G 37), .int (nI rn), .ref (gad G 38), .int (nI tn), .int (nI (tkF tf tn (kz99))), .int (nI (tkP tf tn (kz99 + 1))), .int (nI (tkK tf tn (kz99))), .int (wR tf tn (kz99)), .ref (gad G 39), .ref (gad G 40), .ref (gad G 41), .ref (gad G 42), .ref (gad G 43), .ref (gad G 44), .int (nI n2), .int (nI qn), .int iz, .int (bi im)]) := by rw [hp99]; exact D2_j
      have t8_14 : w14 38 = .inl (gI G, 120, .inl tf) := by rw [hp99]; exact D2_o (by decide) (by decide) t8_13
      have a1_14 : w14 33 = .inl (gI G, 132, .inl f99) := by rw [hp99]; exact D2_i (by decide)
      have x9_14 : w14 39 = .inl (gT G, 4, .inr (.inr (.inr (.inr (fun s => some (gK G s)))))) := by rw [hp99]; exact D2_o (by decide) (by decide) x9_13
      refine zb_ne (tgt := 107) hx hb dX11_isGrant_102 (by decide) (fun c102 => ?_) (fun c102 => ?_)
      · refine lv_aload_n hx hb dX11_isGrant_107 rfl (lv_at hl 1 rfl) ?_
        refine lv_iload_n hx hb dX11_isGrant_108 rfl (lv_at hl 2 rfl) ?_
        refine lv_bipush (v := 6) hx hb dX11_isGrant_109 (by decide) ?_
        refine lv_iconst (v := 0) hx hb dX11_isGrant_111 (by decide) ?_
        refine lv_sipush (v := 999) hx hb dX11_isGrant_112 (by decide) ?_
        refine cQi (rV (As := [_, _, _, _]) ⟨hx, hb, hml, hown, hts⟩ hw (k_X11_number l o1_14 t8_14 htn a1_14 hn (q := q) (fd := 6) hq (by omega) (by decide)) (cv_X11_number hts tw_1243 rfl rfl ⟨Nat.le_of_ble_eq_true rfl, Nat.le_of_ble_eq_true rfl⟩) (by decide) o1_14 rfl rfl hl.1 rfl (by first | exact Nat.le_of_ble_eq_true rfl | decide) dX11_isGrant_115 ⟨Nat.zero_le _, Nat.zero_le _⟩) hw hS (fun r115 w15 H locs hp115 hw hS => ?_)
        obtain ⟨b115, kz115, f115, hX115, rfl, hp115⟩ := hp115
        have o1_15 : w15 32 = .inr (9, [.ref (gad G 33), .ref (gad G 34), .ref (gad G 35), .int (nI (n)), .int (nI n1), .int z, .int hd, .int sd, .ref (gad G 36), .ref (gad G 37), .int (nI rn), .ref (gad G 38), .int (nI tn), .int (nI (tkF tf tn (kz115))), .int (nI (tkP tf tn (kz115 + 1))), .int (nI (tkK tf tn (kz115))), .int (wR tf tn (kz115)), .ref (gad G 39), .ref (gad G 40), .ref (gad G 41), .ref (gad G 42), .ref (gad G 43), .ref (gad G 44), .int (nI n2), .int (nI qn), .int iz, .int (bi im)]) := by rw [hp115]; exact D2_j
        have t8_15 : w15 38 = .inl (gI G, 120, .inl tf) := by rw [hp115]; exact D2_o (by decide) (by decide) t8_14
        have a1_15 : w15 33 = .inl (gI G, 132, .inl f115) := by rw [hp115]; exact D2_i (by decide)
        have x9_15 : w15 39 = .inl (gT G, 4, .inr (.inr (.inr (.inr (fun s => some (gK G s)))))) := by rw [hp115]; exact D2_o (by decide) (by decide) x9_14
        refine zb_ne (tgt := 123) hx hb dX11_isGrant_118 (by decide) (fun c118 => ?_) (fun c118 => ?_)
        · refine lv_iload_n hx hb dX11_isGrant_123 rfl (lv_at hl 0 rfl) ?_
          refine lv_if_eq (tgt := 154) hx hb dX11_isGrant_124 (by decide) (fun q => absurd q (by decide)) (fun c124 => ?_)
          refine lv_iload_n hx hb dX11_isGrant_127 rfl (lv_at hl 0 rfl) ?_
          refine lv_iconst (v := 4) hx hb dX11_isGrant_128 (by decide) ?_
          refine lv_icmp_eq (tgt := 154) hx hb dX11_isGrant_129 (by decide) (fun q => absurd q (by decide)) (fun c129 => ?_)
          refine lv_aload_n hx hb dX11_isGrant_132 rfl (lv_at hl 1 rfl) ?_
          refine lv_iload_n hx hb dX11_isGrant_133 rfl (lv_at hl 2 rfl) ?_
          refine lv_bipush (v := 7) hx hb dX11_isGrant_134 (by decide) ?_
          refine lv_iload_n hx hb dX11_isGrant_136 rfl (lv_at hl 0 rfl) ?_
          refine lv_iconst (v := 1) hx hb dX11_isGrant_137 (by decide) ?_
          refine lv_icmp_ne (tgt := 145) hx hb dX11_isGrant_138 (by decide) (fun q => absurd (rfl) q) (fun c138 => ?_)
          refine lv_iconst (v := 1) hx hb dX11_isGrant_141 (by decide) ?_
          refine lv_goto (tgt := 146) hx hb dX11_isGrant_142 (by decide) ?_
          refine lv_bipush (v := 99) hx hb dX11_isGrant_146 (by decide) ?_
          refine cQi (rV (As := [_, _, _, _]) ⟨hx, hb, hml, hown, hts⟩ hw (k_X11_number l o1_15 t8_15 htn a1_15 hn (q := q) (fd := 7) hq (by omega) (by decide)) (cv_X11_number hts tw_1243 rfl rfl ⟨Nat.le_of_ble_eq_true rfl, Nat.le_of_ble_eq_true rfl⟩) (by decide) o1_15 rfl rfl hl.1 rfl (by first | exact Nat.le_of_ble_eq_true rfl | decide) dX11_isGrant_148 ⟨Nat.zero_le _, Nat.zero_le _⟩) hw hS (fun r148 w16 H locs hp148 hw hS => ?_)
          obtain ⟨b148, kz148, f148, hX148, rfl, hp148⟩ := hp148
          have o1_16 : w16 32 = .inr (9, [.ref (gad G 33), .ref (gad G 34), .ref (gad G 35), .int (nI (n)), .int (nI n1), .int z, .int hd, .int sd, .ref (gad G 36), .ref (gad G 37), .int (nI rn), .ref (gad G 38), .int (nI tn), .int (nI (tkF tf tn (kz148))), .int (nI (tkP tf tn (kz148 + 1))), .int (nI (tkK tf tn (kz148))), .int (wR tf tn (kz148)), .ref (gad G 39), .ref (gad G 40), .ref (gad G 41), .ref (gad G 42), .ref (gad G 43), .ref (gad G 44), .int (nI n2), .int (nI qn), .int iz, .int (bi im)]) := by rw [hp148]; exact D2_j
          have t8_16 : w16 38 = .inl (gI G, 120, .inl tf) := by rw [hp148]; exact D2_o (by decide) (by decide) t8_15
          have a1_16 : w16 33 = .inl (gI G, 132, .inl f148) := by rw [hp148]; exact D2_i (by decide)
          have x9_16 : w16 39 = .inl (gT G, 4, .inr (.inr (.inr (.inr (fun s => some (gK G s)))))) := by rw [hp148]; exact D2_o (by decide) (by decide) x9_15
          refine zb_eq (tgt := 158) hx hb dX11_isGrant_151 (by decide) (fun c151 => ?_) (fun c151 => ?_)
          · refine lv_iconst (v := 0) hx hb dX11_isGrant_158 (by decide) ?_
            exact re_Q hx hb hr hlocks (rfl) hw hS dX11_isGrant_159 (⟨false, kz148, f148, by rw [rGrant, if_pos g2, hsv, rGr_1, bnd_t hX99 c102, bnd_t hX115 c118, hX148, c151], rfl, by rw [hp148, hp115, hp99, hp82, hp75]; first | done | (rw [hc]; simp only [m1p, m2p, m3p, m4p, m5p]; try rfl)⟩)
          · skip
            refine lv_iconst (v := 1) hx hb dX11_isGrant_154 (by decide) ?_
            refine lv_goto (tgt := 159) hx hb dX11_isGrant_155 (by decide) ?_
            exact re_Q hx hb hr hlocks (rfl) hw hS dX11_isGrant_159 (⟨true, kz148, f148, by rw [rGrant, if_pos g2, hsv, rGr_1, bnd_t hX99 c102, bnd_t hX115 c118, hX148, c151], rfl, by rw [hp148, hp115, hp99, hp82, hp75]; first | done | (rw [hc]; simp only [m1p, m2p, m3p, m4p, m5p]; try rfl)⟩)
        · refine lv_iconst (v := 0) hx hb dX11_isGrant_121 (by decide) ?_
          exact re_Q hx hb hr hlocks (rfl) hw hS dX11_isGrant_122 (⟨false, kz115, f115, by rw [rGrant, if_pos g2, hsv, rGr_1, bnd_t hX99 c102, bnd_f hX115 c118], rfl, by rw [hp115, hp99, hp82, hp75]; first | done | (rw [hc]; simp only [m1p, m2p, m3p, m4p, m5p]; try rfl)⟩)
      · refine lv_iconst (v := 0) hx hb dX11_isGrant_105 (by decide) ?_
        exact re_Q hx hb hr hlocks (rfl) hw hS dX11_isGrant_106 (⟨false, kz99, f99, by rw [rGrant, if_pos g2, hsv, rGr_1, bnd_f hX99 c102], rfl, by rw [hp99, hp82, hp75]; first | done | (rw [hc]; simp only [m1p, m2p, m3p, m4p, m5p]; try rfl)⟩)
  · skip
    refine lv_iconst (v := 0) hx hb dX11_isGrant_9 (by decide) ?_
    refine lv_goto (tgt := 66) hx hb dX11_isGrant_10 (by decide) ?_
    refine lv_istore_n (lv' := [(2, _), (0, _), (1, _)]) hx hb dX11_isGrant_66 rfl hl (by decide) rfl (fun ls hl => ?_)
    refine lv_iload_n hx hb dX11_isGrant_67 rfl (lv_at hl 0 rfl) ?_
    refine lv_iconst (v := (-1)) hx hb dX11_isGrant_68 (by decide) ?_
    refine lv_icmp_ne (tgt := 74) hx hb dX11_isGrant_69 (by decide) (fun c69 => ?_) (fun q => absurd q (by decide))
    obtain ⟨g1, g2⟩ := isW_V (a := 4) (b := 8) c6 (by decide)
    have hsv : VV tf tn k - 4 = 0 := by rw [g1]; decide
    refine lv_aload_n hx hb dX11_isGrant_74 rfl (lv_at hl 1 rfl) ?_
    refine cQv (rV (As := []) ⟨hx, hb, hml, hown, hts⟩ hw (k_X11_goesOn l o1 t8 htn (tkP_le _)) (cv_X11_goesOn hts tw_1214 rfl rfl ⟨Nat.le_of_ble_eq_true rfl, Nat.le_of_ble_eq_true rfl⟩) (by decide) o1 rfl rfl hl.1 rfl (by first | exact Nat.le_of_ble_eq_true rfl | decide) dX11_isGrant_75 ⟨Nat.zero_le _, Nat.zero_le _⟩) hw hS (fun w17 H locs hp75 hw hS => ?_)
    have o1_17 : w17 32 = .inr (9, [.ref (gad G 33), .ref (gad G 34), .ref (gad G 35), .int (nI (n)), .int (nI n1), .int z, .int hd, .int sd, .ref (gad G 36), .ref (gad G 37), .int (nI rn), .ref (gad G 38), .int (nI tn), .int (nI (tkF tf tn ((k + 1)))), .int (nI (tkP tf tn ((k + 1) + 1))), .int (nI (tkK tf tn ((k + 1)))), .int (wR tf tn ((k + 1))), .ref (gad G 39), .ref (gad G 40), .ref (gad G 41), .ref (gad G 42), .ref (gad G 43), .ref (gad G 44), .int (nI n2), .int (nI qn), .int iz, .int (bi im)]) := by rw [hp75]; exact vu_s
    have t8_17 : w17 38 = .inl (gI G, 120, .inl tf) := by rw [hp75]; exact vu_e (by decide) t8
    have a1_17 : w17 33 = .inl (gI G, 132, .inl f) := by rw [hp75]; exact vu_e (by decide) a1
    have x9_17 : w17 39 = .inl (gT G, 4, .inr (.inr (.inr (.inr (fun s => some (gK G s)))))) := by rw [hp75]; exact vu_e (by decide) x9
    refine lv_aload_n hx hb dX11_isGrant_78 rfl (lv_at hl 1 rfl) ?_
    refine lv_iload_n hx hb dX11_isGrant_79 rfl (lv_at hl 2 rfl) ?_
    refine lv_iconst (v := 4) hx hb dX11_isGrant_80 (by decide) ?_
    refine lv_iload_n hx hb dX11_isGrant_81 rfl (lv_at hl 0 rfl) ?_
    refine cQv (rV (As := [_, _, _]) ⟨hx, hb, hml, hown, hts⟩ hw (k_X11_sets l o1_17 a1_17 hn (ixm q 4) (by omega)) (cv_X11_sets hts tw_975 rfl rfl ⟨Nat.le_of_ble_eq_true rfl, Nat.le_of_ble_eq_true rfl⟩) (by decide) o1_17 rfl rfl hl.1 rfl (by first | exact Nat.le_of_ble_eq_true rfl | decide) dX11_isGrant_82 ⟨Nat.zero_le _, Nat.zero_le _⟩) hw hS (fun w18 H locs hp82 hw hS => ?_)
    have o1_18 : w18 32 = .inr (9, [.ref (gad G 33), .ref (gad G 34), .ref (gad G 35), .int (nI (n)), .int (nI n1), .int z, .int hd, .int sd, .ref (gad G 36), .ref (gad G 37), .int (nI rn), .ref (gad G 38), .int (nI tn), .int (nI (tkF tf tn ((k + 1)))), .int (nI (tkP tf tn ((k + 1) + 1))), .int (nI (tkK tf tn ((k + 1)))), .int (wR tf tn ((k + 1))), .ref (gad G 39), .ref (gad G 40), .ref (gad G 41), .ref (gad G 42), .ref (gad G 43), .ref (gad G 44), .int (nI n2), .int (nI qn), .int iz, .int (bi im)]) := by rw [hp82]; exact vu_e (by decide) o1_17
    have t8_18 : w18 38 = .inl (gI G, 120, .inl tf) := by rw [hp82]; exact vu_e (by decide) t8_17
    have a1_18 : w18 33 = .inl (gI G, 132, .inl (upd f (q * 11 + 4) (0))) := by rw [hp82]; exact vu_s
    have x9_18 : w18 39 = .inl (gT G, 4, .inr (.inr (.inr (.inr (fun s => some (gK G s)))))) := by rw [hp82]; exact vu_e (by decide) x9_17
    refine lv_iload_n hx hb dX11_isGrant_85 rfl (lv_at hl 0 rfl) ?_
    refine lv_iconst (v := 3) hx hb dX11_isGrant_86 (by decide) ?_
    refine lv_icmp_ne (tgt := 92) hx hb dX11_isGrant_87 (by decide) (fun c87 => ?_) (fun q => absurd q (by decide))
    refine lv_iload_n hx hb dX11_isGrant_92 rfl (lv_at hl 0 rfl) ?_
    refine lv_if_eq (tgt := 107) hx hb dX11_isGrant_93 (by decide) (fun c93 => ?_) (fun q => absurd (rfl) q)
    refine lv_aload_n hx hb dX11_isGrant_107 rfl (lv_at hl 1 rfl) ?_
    refine lv_iload_n hx hb dX11_isGrant_108 rfl (lv_at hl 2 rfl) ?_
    refine lv_bipush (v := 6) hx hb dX11_isGrant_109 (by decide) ?_
    refine lv_iconst (v := 0) hx hb dX11_isGrant_111 (by decide) ?_
    refine lv_sipush (v := 999) hx hb dX11_isGrant_112 (by decide) ?_
    refine cQi (rV (As := [_, _, _, _]) ⟨hx, hb, hml, hown, hts⟩ hw (k_X11_number l o1_18 t8_18 htn a1_18 hn (q := q) (fd := 6) hq (by omega) (by decide)) (cv_X11_number hts tw_1243 rfl rfl ⟨Nat.le_of_ble_eq_true rfl, Nat.le_of_ble_eq_true rfl⟩) (by decide) o1_18 rfl rfl hl.1 rfl (by first | exact Nat.le_of_ble_eq_true rfl | decide) dX11_isGrant_115 ⟨Nat.zero_le _, Nat.zero_le _⟩) hw hS (fun r115 w19 H locs hp115 hw hS => ?_)
    obtain ⟨b115, kz115, f115, hX115, rfl, hp115⟩ := hp115
    have o1_19 : w19 32 = .inr (9, [.ref (gad G 33), .ref (gad G 34), .ref (gad G 35), .int (nI (n)), .int (nI n1), .int z, .int hd, .int sd, .ref (gad G 36), .ref (gad G 37), .int (nI rn), .ref (gad G 38), .int (nI tn), .int (nI (tkF tf tn (kz115))), .int (nI (tkP tf tn (kz115 + 1))), .int (nI (tkK tf tn (kz115))), .int (wR tf tn (kz115)), .ref (gad G 39), .ref (gad G 40), .ref (gad G 41), .ref (gad G 42), .ref (gad G 43), .ref (gad G 44), .int (nI n2), .int (nI qn), .int iz, .int (bi im)]) := by rw [hp115]; exact D2_j
    have t8_19 : w19 38 = .inl (gI G, 120, .inl tf) := by rw [hp115]; exact D2_o (by decide) (by decide) t8_18
    have a1_19 : w19 33 = .inl (gI G, 132, .inl f115) := by rw [hp115]; exact D2_i (by decide)
    have x9_19 : w19 39 = .inl (gT G, 4, .inr (.inr (.inr (.inr (fun s => some (gK G s)))))) := by rw [hp115]; exact D2_o (by decide) (by decide) x9_18
    refine zb_ne (tgt := 123) hx hb dX11_isGrant_118 (by decide) (fun c118 => ?_) (fun c118 => ?_)
    · refine lv_iload_n hx hb dX11_isGrant_123 rfl (lv_at hl 0 rfl) ?_
      refine lv_if_eq (tgt := 154) hx hb dX11_isGrant_124 (by decide) (fun c124 => ?_) (fun q => absurd (rfl) q)
      skip
      refine lv_iconst (v := 1) hx hb dX11_isGrant_154 (by decide) ?_
      refine lv_goto (tgt := 159) hx hb dX11_isGrant_155 (by decide) ?_
      exact re_Q hx hb hr hlocks (rfl) hw hS dX11_isGrant_159 (⟨true, kz115, f115, by rw [rGrant, if_pos g2, hsv, rGr_0, bnd_t hX115 c118], rfl, by rw [hp115, hp82, hp75]; first | done | (rw [hc]; simp only [m1p, m2p, m3p, m4p, m5p]; try rfl)⟩)
    · refine lv_iconst (v := 0) hx hb dX11_isGrant_121 (by decide) ?_
      exact re_Q hx hb hr hlocks (rfl) hw hS dX11_isGrant_122 (⟨false, kz115, f115, by rw [rGrant, if_pos g2, hsv, rGr_0, bnd_f hX115 c118], rfl, by rw [hp115, hp82, hp75]; first | done | (rw [hc]; simp only [m1p, m2p, m3p, m4p, m5p]; try rfl)⟩)
set_option maxHeartbeats 4000000 in
set_option maxRecDepth 100000 in
theorem k_X11_isLaw (l : Launch) {G : GT} {c : Nat → va_E} {n n1 rn tn n2 qn : Nat} {z hd sd iz : Int32} {im : Bool} {tf : Nat → Int32} {k : Nat} (o1 : c 32 = .inr (9, [.ref (gad G 33), .ref (gad G 34), .ref (gad G 35), .int (nI (n)), .int (nI n1), .int z, .int hd, .int sd, .ref (gad G 36), .ref (gad G 37), .int (nI rn), .ref (gad G 38), .int (nI tn), .int (nI (tkF tf tn (k))), .int (nI (tkP tf tn (k + 1))), .int (nI (tkK tf tn (k))), .int (wR tf tn (k)), .ref (gad G 39), .ref (gad G 40), .ref (gad G 41), .ref (gad G 42), .ref (gad G 43), .ref (gad G 44), .int (nI n2), .int (nI qn), .int iz, .int (bi im)])) (t8 : c 38 = .inl (gI G, 120, .inl tf)) (htn : tn ≤ 120) {f : Nat → Int32} (a1 : c 33 = .inl (gI G, 132, .inl f)) (hn : n ≤ 12) (x9 : c 39 = .inl (gT G, 4, .inr (.inr (.inr (.inr (fun s => some (gK G s))))))) : Met l yX11_isLaw (wv yX11_isLaw cX11_isLaw 2 (some .boolean)) ({ frames := 8, cells := 0, slots := 0, locals := 175 } : Room) (va_Pc [.ref (gad G 32)] (fun U => Hw G c U U.heap)) (va_Qi (fun r (c9 : Nat → va_E) => ∃ (b9 : Bool) (k9 : Nat) (f9 : Nat → Int32) (n9 : Nat), rLaw (KK tf tn) (VV tf tn) n k f = (b9, k9, f9, n9) ∧ n9 ≤ 12 ∧ r = bi b9 ∧ c9 = D2 33 32 c (.inl (gI G, 132, .inl f9)) (.inr (9, [.ref (gad G 33), .ref (gad G 34), .ref (gad G 35), .int (nI (n9)), .int (nI n1), .int z, .int hd, .int sd, .ref (gad G 36), .ref (gad G 37), .int (nI rn), .ref (gad G 38), .int (nI tn), .int (nI (tkF tf tn (k9))), .int (nI (tkP tf tn (k9 + 1))), .int (nI (tkK tf tn (k9))), .int (wR tf tn (k9)), .ref (gad G 39), .ref (gad G 40), .ref (gad G 41), .ref (gad G 42), .ref (gad G 43), .ref (gad G 44), .int (nI n2), .int (nI qn), .int iz, .int (bi im)]))) (fun c9 t => Hw G c9 t t.heap) (gA G)) 0 0 (gA G) := by
  refine en (by decide +kernel) (by first | exact Nat.le_of_ble_eq_true rfl | decide) ?_
  intro p e s m below meth cd ls hx hb hr hml hown hts hlocks hnm hw hl
  have hl : lv_has ls 2 [(0, .ref (gad G 32))] := hl
  have hX : Sw G s s.heap := hw.2.2.2.2.2
  have hS : va_S (gA G) s.heap s.heap [] := va_S.rf
  obtain ⟨H, hH⟩ : ∃ wz9, wz9 = s.heap := ⟨_, rfl⟩
  obtain ⟨locs, hlocs⟩ : ∃ wz9 : List Loc, wz9 = [] := ⟨_, rfl⟩
  have hw : Hw G c s H := by rw [hH]; exact hw
  have hS : va_S (gA G) s.heap H locs := by rw [hH, hlocs]; exact hS
  suffices hgo : W p l e ({ frames := 8, cells := 0, slots := 0, locals := 175 } : Room) s m (([.ref (gad G 32)] : List Value).toArray) below meth cd H locs 0 0 (MQ below (va_Qi (fun r (c9 : Nat → va_E) => ∃ (b9 : Bool) (k9 : Nat) (f9 : Nat → Int32) (n9 : Nat), rLaw (KK tf tn) (VV tf tn) n k f = (b9, k9, f9, n9) ∧ n9 ≤ 12 ∧ r = bi b9 ∧ c9 = D2 33 32 c (.inl (gI G, 132, .inl f9)) (.inr (9, [.ref (gad G 33), .ref (gad G 34), .ref (gad G 35), .int (nI (n9)), .int (nI n1), .int z, .int hd, .int sd, .ref (gad G 36), .ref (gad G 37), .int (nI rn), .ref (gad G 38), .int (nI tn), .int (nI (tkF tf tn (k9))), .int (nI (tkP tf tn (k9 + 1))), .int (nI (tkK tf tn (k9))), .int (wR tf tn (k9)), .ref (gad G 39), .ref (gad G 40), .ref (gad G 41), .ref (gad G 42), .ref (gad G 43), .ref (gad G 44), .int (nI n2), .int (nI qn), .int iz, .int (bi im)]))) (fun c9 t => Hw G c9 t t.heap) (gA G)) ([.ref (gad G 32)] : List Value).toArray s 0 0 (gA G)) (F0 m 0 ls []) by rw [hH, hlocs] at hgo; exact hgo
  have hc : c = D2 33 32 c (.inl (gI G, 132, .inl f)) (.inr (9, [.ref (gad G 33), .ref (gad G 34), .ref (gad G 35), .int (nI (n)), .int (nI n1), .int z, .int hd, .int sd, .ref (gad G 36), .ref (gad G 37), .int (nI rn), .ref (gad G 38), .int (nI tn), .int (nI (tkF tf tn (k))), .int (nI (tkP tf tn (k + 1))), .int (nI (tkK tf tn (k))), .int (wR tf tn (k)), .ref (gad G 39), .ref (gad G 40), .ref (gad G 41), .ref (gad G 42), .ref (gad G 43), .ref (gad G 44), .int (nI n2), .int (nI qn), .int iz, .int (bi im)])) := D2_id a1 o1
  refine lv_aload_n hx hb dX11_isLaw_0 rfl (lv_at hl 0 rfl) ?_
  refine va_ldcS hx hb hown (hw.2.2.2.2.1 9 (by decide)).2 dX11_isLaw_1 ?_
  refine cSe (rV (As := [_]) ⟨hx, hb, hml, hown, hts⟩ hw (k_X11_isWord l o1 t8 htn (i := 9) (w := 9) (by omega) rfl) (cv_X11_isWord hts tw_1227 rfl rfl ⟨Nat.le_of_ble_eq_true rfl, Nat.le_of_ble_eq_true rfl⟩) (by decide) o1 rfl rfl hl.1 rfl (by first | exact Nat.le_of_ble_eq_true rfl | decide) dX11_isLaw_3 ⟨Nat.zero_le _, Nat.zero_le _⟩) ?_
  refine zb_eq (tgt := 18) hx hb dX11_isLaw_6 (by decide) (fun c6 => ?_) (fun c6 => ?_)
  · refine lv_iconst (v := 0) hx hb dX11_isLaw_18 (by decide) ?_
    exact re_Q hx hb hr hlocks (rfl) hw hS dX11_isLaw_19 (⟨false, k, f, n, by rw [rLaw, if_neg (by rw [c6, Bool.false_and]; decide)], hn, rfl, hc⟩)
  · refine lv_aload_n hx hb dX11_isLaw_9 rfl (lv_at hl 0 rfl) ?_
    refine w_get (C := RX11) (T := TX11) (N := 27) 3 hx hb hts inX11 hown hw (by decide) o1 rfl (by decide) (hts _ tw_888) rfl dX11_isLaw_10 ?_
    refine lv_bipush (v := 12) hx hb dX11_isLaw_13 (by decide) ?_
    refine lv_icmp_ne (tgt := 20) hx hb dX11_isLaw_15 (by decide) (fun c15 => ?_) (fun c15 => ?_)
    · have hlt : n < 12 := by rcases Nat.lt_or_ge n 12 with q | q; exact q; exact absurd (show nI n = 12 by rw [show n = 12 by omega]; rfl) c15
      refine lv_aload_n hx hb dX11_isLaw_20 rfl (lv_at hl 0 rfl) ?_
      refine w_get (C := RX11) (T := TX11) (N := 27) 3 hx hb hts inX11 hown hw (by decide) o1 rfl (by decide) (hts _ tw_888) rfl dX11_isLaw_21 ?_
      refine lv_istore_n (lv' := [(1, _), (0, _)]) hx hb dX11_isLaw_24 rfl hl (by decide) rfl (fun ls hl => ?_)
      refine lv_aload_n hx hb dX11_isLaw_25 rfl (lv_at hl 1 rfl) ?_
      refine cQv (rV (As := []) ⟨hx, hb, hml, hown, hts⟩ hw (k_X11_comes l o1 a1 hn hlt) (cv_X11_comes hts tw_971 rfl rfl ⟨Nat.le_of_ble_eq_true rfl, Nat.le_of_ble_eq_true rfl⟩) (by decide) o1 rfl rfl hl.1 rfl (by first | exact Nat.le_of_ble_eq_true rfl | decide) dX11_isLaw_26 ⟨Nat.zero_le _, Nat.zero_le _⟩) hw hS (fun w1 H locs hp26 hw hS => ?_)
      have o1_1 : w1 32 = .inr (9, [.ref (gad G 33), .ref (gad G 34), .ref (gad G 35), .int (nI (n + 1)), .int (nI n1), .int z, .int hd, .int sd, .ref (gad G 36), .ref (gad G 37), .int (nI rn), .ref (gad G 38), .int (nI tn), .int (nI (tkF tf tn (k))), .int (nI (tkP tf tn (k + 1))), .int (nI (tkK tf tn (k))), .int (wR tf tn (k)), .ref (gad G 39), .ref (gad G 40), .ref (gad G 41), .ref (gad G 42), .ref (gad G 43), .ref (gad G 44), .int (nI n2), .int (nI qn), .int iz, .int (bi im)]) := by rw [hp26]; exact vu_s
      have t8_1 : w1 38 = .inl (gI G, 120, .inl tf) := by rw [hp26]; exact vu_e (by decide) (vu_e (by decide) t8)
      have a1_1 : w1 33 = .inl (gI G, 132, .inl (apF f n)) := by rw [hp26]; exact vu_e (by decide) vu_s
      have x9_1 : w1 39 = .inl (gT G, 4, .inr (.inr (.inr (.inr (fun s => some (gK G s)))))) := by rw [hp26]; exact vu_e (by decide) (vu_e (by decide) x9)
      have hq : n < 12 := hlt
      have hn1 : n + 1 ≤ 12 := hlt
      refine lv_aload_n hx hb dX11_isLaw_29 rfl (lv_at hl 1 rfl) ?_
      refine cQv (rV (As := []) ⟨hx, hb, hml, hown, hts⟩ hw (k_X11_goesOn l o1_1 t8_1 htn (tkP_le _)) (cv_X11_goesOn hts tw_1214 rfl rfl ⟨Nat.le_of_ble_eq_true rfl, Nat.le_of_ble_eq_true rfl⟩) (by decide) o1_1 rfl rfl hl.1 rfl (by first | exact Nat.le_of_ble_eq_true rfl | decide) dX11_isLaw_30 ⟨Nat.zero_le _, Nat.zero_le _⟩) hw hS (fun w2 H locs hp30 hw hS => ?_)
      have o1_2 : w2 32 = .inr (9, [.ref (gad G 33), .ref (gad G 34), .ref (gad G 35), .int (nI (n + 1)), .int (nI n1), .int z, .int hd, .int sd, .ref (gad G 36), .ref (gad G 37), .int (nI rn), .ref (gad G 38), .int (nI tn), .int (nI (tkF tf tn ((k + 1)))), .int (nI (tkP tf tn ((k + 1) + 1))), .int (nI (tkK tf tn ((k + 1)))), .int (wR tf tn ((k + 1))), .ref (gad G 39), .ref (gad G 40), .ref (gad G 41), .ref (gad G 42), .ref (gad G 43), .ref (gad G 44), .int (nI n2), .int (nI qn), .int iz, .int (bi im)]) := by rw [hp30]; exact vu_s
      have t8_2 : w2 38 = .inl (gI G, 120, .inl tf) := by rw [hp30]; exact vu_e (by decide) t8_1
      have a1_2 : w2 33 = .inl (gI G, 132, .inl (apF f n)) := by rw [hp30]; exact vu_e (by decide) a1_1
      have x9_2 : w2 39 = .inl (gT G, 4, .inr (.inr (.inr (.inr (fun s => some (gK G s)))))) := by rw [hp30]; exact vu_e (by decide) x9_1
      refine lv_aload_n hx hb dX11_isLaw_33 rfl (lv_at hl 1 rfl) ?_
      refine lv_iload_n hx hb dX11_isLaw_34 rfl (lv_at hl 0 rfl) ?_
      refine cQi (rV (As := [_]) ⟨hx, hb, hml, hown, hts⟩ hw (k_X11_isTest l o1_2 t8_2 htn a1_2 hn1 x9_2 (q := n) hq) (cv_X11_isTest hts tw_1233 rfl rfl ⟨Nat.le_of_ble_eq_true rfl, Nat.le_of_ble_eq_true rfl⟩) (by decide) o1_2 rfl rfl hl.1 rfl (by first | exact Nat.le_of_ble_eq_true rfl | decide) dX11_isLaw_35 ⟨Nat.zero_le _, Nat.zero_le _⟩) hw hS (fun r35 w3 H locs hp35 hw hS => ?_)
      obtain ⟨b35, kz35, f35, hX35, rfl, hp35⟩ := hp35
      have o1_3 : w3 32 = .inr (9, [.ref (gad G 33), .ref (gad G 34), .ref (gad G 35), .int (nI (n + 1)), .int (nI n1), .int z, .int hd, .int sd, .ref (gad G 36), .ref (gad G 37), .int (nI rn), .ref (gad G 38), .int (nI tn), .int (nI (tkF tf tn (kz35))), .int (nI (tkP tf tn (kz35 + 1))), .int (nI (tkK tf tn (kz35))), .int (wR tf tn (kz35)), .ref (gad G 39), .ref (gad G 40), .ref (gad G 41), .ref (gad G 42), .ref (gad G 43), .ref (gad G 44), .int (nI n2), .int (nI qn), .int iz, .int (bi im)]) := by rw [hp35]; exact D2_j
      have t8_3 : w3 38 = .inl (gI G, 120, .inl tf) := by rw [hp35]; exact D2_o (by decide) (by decide) t8_2
      have a1_3 : w3 33 = .inl (gI G, 132, .inl f35) := by rw [hp35]; exact D2_i (by decide)
      have x9_3 : w3 39 = .inl (gT G, 4, .inr (.inr (.inr (.inr (fun s => some (gK G s)))))) := by rw [hp35]; exact D2_o (by decide) (by decide) x9_2
      refine zb_eq (tgt := 58) hx hb dX11_isLaw_38 (by decide) (fun c38 => ?_) (fun c38 => ?_)
      · refine lv_iconst (v := 0) hx hb dX11_isLaw_58 (by decide) ?_
        exact re_Q hx hb hr hlocks (rfl) hw hS dX11_isLaw_59 (⟨false, kz35, f35, n + 1, rLaw_t c6 hlt (by rw [rLawB, bnd_f hX35 c38]), hn1, rfl, by rw [hp35, hp30, hp26, hc]; simp only [m1p, m2p, m3p, m4p, m5p]⟩)
      · refine lv_aload_n hx hb dX11_isLaw_41 rfl (lv_at hl 1 rfl) ?_
        refine va_ldcS hx hb hown (hw.2.2.2.2.1 10 (by decide)).2 dX11_isLaw_42 ?_
        refine cQi (rV (As := [_]) ⟨hx, hb, hml, hown, hts⟩ hw (k_X11_takes l o1_3 t8_3 htn a1_3 hn1 (i := 10) (w := 10) (by omega) rfl) (cv_X11_takes hts tw_1238 rfl rfl ⟨Nat.le_of_ble_eq_true rfl, Nat.le_of_ble_eq_true rfl⟩) (by decide) o1_3 rfl rfl hl.1 rfl (by first | exact Nat.le_of_ble_eq_true rfl | decide) dX11_isLaw_44 ⟨Nat.zero_le _, Nat.zero_le _⟩) hw hS (fun r44 w4 H locs hp44 hw hS => ?_)
        obtain ⟨b44, kz44, f44, hX44, rfl, hp44⟩ := hp44
        have o1_4 : w4 32 = .inr (9, [.ref (gad G 33), .ref (gad G 34), .ref (gad G 35), .int (nI (n + 1)), .int (nI n1), .int z, .int hd, .int sd, .ref (gad G 36), .ref (gad G 37), .int (nI rn), .ref (gad G 38), .int (nI tn), .int (nI (tkF tf tn (kz44))), .int (nI (tkP tf tn (kz44 + 1))), .int (nI (tkK tf tn (kz44))), .int (wR tf tn (kz44)), .ref (gad G 39), .ref (gad G 40), .ref (gad G 41), .ref (gad G 42), .ref (gad G 43), .ref (gad G 44), .int (nI n2), .int (nI qn), .int iz, .int (bi im)]) := by rw [hp44]; exact D2_j
        have t8_4 : w4 38 = .inl (gI G, 120, .inl tf) := by rw [hp44]; exact D2_o (by decide) (by decide) t8_3
        have a1_4 : w4 33 = .inl (gI G, 132, .inl f44) := by rw [hp44]; exact D2_i (by decide)
        have x9_4 : w4 39 = .inl (gT G, 4, .inr (.inr (.inr (.inr (fun s => some (gK G s)))))) := by rw [hp44]; exact D2_o (by decide) (by decide) x9_3
        refine zb_eq (tgt := 58) hx hb dX11_isLaw_47 (by decide) (fun c47 => ?_) (fun c47 => ?_)
        · refine lv_iconst (v := 0) hx hb dX11_isLaw_58 (by decide) ?_
          exact re_Q hx hb hr hlocks (rfl) hw hS dX11_isLaw_59 (⟨false, kz44, f44, n + 1, rLaw_t c6 hlt (by rw [rLawB, bnd_t hX35 c38, bnd_f hX44 c47]), hn1, rfl, by rw [hp44, hp35, hp30, hp26, hc]; simp only [m1p, m2p, m3p, m4p, m5p]⟩)
        · refine lv_aload_n hx hb dX11_isLaw_50 rfl (lv_at hl 1 rfl) ?_
          refine lv_iload_n hx hb dX11_isLaw_51 rfl (lv_at hl 0 rfl) ?_
          refine cQi (rV (As := [_]) ⟨hx, hb, hml, hown, hts⟩ hw (k_X11_isGrant l o1_4 t8_4 htn a1_4 hn1 x9_4 (q := n) hq) (cv_X11_isGrant hts tw_1253 rfl rfl ⟨Nat.le_of_ble_eq_true rfl, Nat.le_of_ble_eq_true rfl⟩) (by decide) o1_4 rfl rfl hl.1 rfl (by first | exact Nat.le_of_ble_eq_true rfl | decide) dX11_isLaw_52 ⟨Nat.zero_le _, Nat.zero_le _⟩) hw hS (fun r52 w5 H locs hp52 hw hS => ?_)
          obtain ⟨b52, kz52, f52, hX52, rfl, hp52⟩ := hp52
          have o1_5 : w5 32 = .inr (9, [.ref (gad G 33), .ref (gad G 34), .ref (gad G 35), .int (nI (n + 1)), .int (nI n1), .int z, .int hd, .int sd, .ref (gad G 36), .ref (gad G 37), .int (nI rn), .ref (gad G 38), .int (nI tn), .int (nI (tkF tf tn (kz52))), .int (nI (tkP tf tn (kz52 + 1))), .int (nI (tkK tf tn (kz52))), .int (wR tf tn (kz52)), .ref (gad G 39), .ref (gad G 40), .ref (gad G 41), .ref (gad G 42), .ref (gad G 43), .ref (gad G 44), .int (nI n2), .int (nI qn), .int iz, .int (bi im)]) := by rw [hp52]; exact D2_j
          have t8_5 : w5 38 = .inl (gI G, 120, .inl tf) := by rw [hp52]; exact D2_o (by decide) (by decide) t8_4
          have a1_5 : w5 33 = .inl (gI G, 132, .inl f52) := by rw [hp52]; exact D2_i (by decide)
          have x9_5 : w5 39 = .inl (gT G, 4, .inr (.inr (.inr (.inr (fun s => some (gK G s)))))) := by rw [hp52]; exact D2_o (by decide) (by decide) x9_4
          refine zb_ne (tgt := 60) hx hb dX11_isLaw_55 (by decide) (fun c55 => ?_) (fun c55 => ?_)
          · refine lv_aload_n hx hb dX11_isLaw_60 rfl (lv_at hl 1 rfl) ?_
            refine w_ldcwS hx hb hown (hw.2.2.2.2.1 14 (by decide)).2 dX11_isLaw_61 ?_
            refine cQi (rV (As := [_]) ⟨hx, hb, hml, hown, hts⟩ hw (k_X11_takes l o1_5 t8_5 htn a1_5 hn1 (i := 14) (w := 14) (by omega) rfl) (cv_X11_takes hts tw_1238 rfl rfl ⟨Nat.le_of_ble_eq_true rfl, Nat.le_of_ble_eq_true rfl⟩) (by decide) o1_5 rfl rfl hl.1 rfl (by first | exact Nat.le_of_ble_eq_true rfl | decide) dX11_isLaw_64 ⟨Nat.zero_le _, Nat.zero_le _⟩) hw hS (fun r64 w6 H locs hp64 hw hS => ?_)
            obtain ⟨b64, kz64, f64, hX64, rfl, hp64⟩ := hp64
            have o1_6 : w6 32 = .inr (9, [.ref (gad G 33), .ref (gad G 34), .ref (gad G 35), .int (nI (n + 1)), .int (nI n1), .int z, .int hd, .int sd, .ref (gad G 36), .ref (gad G 37), .int (nI rn), .ref (gad G 38), .int (nI tn), .int (nI (tkF tf tn (kz64))), .int (nI (tkP tf tn (kz64 + 1))), .int (nI (tkK tf tn (kz64))), .int (wR tf tn (kz64)), .ref (gad G 39), .ref (gad G 40), .ref (gad G 41), .ref (gad G 42), .ref (gad G 43), .ref (gad G 44), .int (nI n2), .int (nI qn), .int iz, .int (bi im)]) := by rw [hp64]; exact D2_j
            have t8_6 : w6 38 = .inl (gI G, 120, .inl tf) := by rw [hp64]; exact D2_o (by decide) (by decide) t8_5
            have a1_6 : w6 33 = .inl (gI G, 132, .inl f64) := by rw [hp64]; exact D2_i (by decide)
            have x9_6 : w6 39 = .inl (gT G, 4, .inr (.inr (.inr (.inr (fun s => some (gK G s)))))) := by rw [hp64]; exact D2_o (by decide) (by decide) x9_5
            refine zb_eq (tgt := 116) hx hb dX11_isLaw_67 (by decide) (fun c67 => ?_) (fun c67 => ?_)
            · refine lv_aload_n hx hb dX11_isLaw_116 rfl (lv_at hl 1 rfl) ?_
              refine w_ldcwS hx hb hown (hw.2.2.2.2.1 16 (by decide)).2 dX11_isLaw_117 ?_
              refine cQi (rV (As := [_]) ⟨hx, hb, hml, hown, hts⟩ hw (k_X11_takes l o1_6 t8_6 htn a1_6 hn1 (i := 16) (w := 16) (by omega) rfl) (cv_X11_takes hts tw_1238 rfl rfl ⟨Nat.le_of_ble_eq_true rfl, Nat.le_of_ble_eq_true rfl⟩) (by decide) o1_6 rfl rfl hl.1 rfl (by first | exact Nat.le_of_ble_eq_true rfl | decide) dX11_isLaw_120 ⟨Nat.zero_le _, Nat.zero_le _⟩) hw hS (fun r120 w7 H locs hp120 hw hS => ?_)
              obtain ⟨b120, kz120, f120, hX120, rfl, hp120⟩ := hp120
              have o1_7 : w7 32 = .inr (9, [.ref (gad G 33), .ref (gad G 34), .ref (gad G 35), .int (nI (n + 1)), .int (nI n1), .int z, .int hd, .int sd, .ref (gad G 36), .ref (gad G 37), .int (nI rn), .ref (gad G 38), .int (nI tn), .int (nI (tkF tf tn (kz120))), .int (nI (tkP tf tn (kz120 + 1))), .int (nI (tkK tf tn (kz120))), .int (wR tf tn (kz120)), .ref (gad G 39), .ref (gad G 40), .ref (gad G 41), .ref (gad G 42), .ref (gad G 43), .ref (gad G 44), .int (nI n2), .int (nI qn), .int iz, .int (bi im)]) := by rw [hp120]; exact D2_j
              have t8_7 : w7 38 = .inl (gI G, 120, .inl tf) := by rw [hp120]; exact D2_o (by decide) (by decide) t8_6
              have a1_7 : w7 33 = .inl (gI G, 132, .inl f120) := by rw [hp120]; exact D2_i (by decide)
              have x9_7 : w7 39 = .inl (gT G, 4, .inr (.inr (.inr (.inr (fun s => some (gK G s)))))) := by rw [hp120]; exact D2_o (by decide) (by decide) x9_6
              refine zb_eq (tgt := 140) hx hb dX11_isLaw_123 (by decide) (fun c123 => ?_) (fun c123 => ?_)
              · skip
                refine lv_iconst (v := 1) hx hb dX11_isLaw_140 (by decide) ?_
                refine lv_goto (tgt := 145) hx hb dX11_isLaw_141 (by decide) ?_
                exact re_Q hx hb hr hlocks (rfl) hw hS dX11_isLaw_145 (⟨true, kz120, f120, n + 1, rLaw_t c6 hlt (by rw [rLawB, bnd_t hX35 c38, bnd_t hX44 c47, bnd_t hX52 c55, bnd_t (show rSpan _ _ _ _ _ = _ from by rw [rSpan, orr_f hX64 c67]) rfl, rExc, orr_f hX120 c123]), hn1, rfl, by rw [hp120, hp64, hp52, hp44, hp35, hp30, hp26, hc]; simp only [m1p, m2p, m3p, m4p, m5p]⟩)
              · refine lv_aload_n hx hb dX11_isLaw_126 rfl (lv_at hl 1 rfl) ?_
                refine lv_iload_n hx hb dX11_isLaw_127 rfl (lv_at hl 0 rfl) ?_
                refine lv_bipush (v := 10) hx hb dX11_isLaw_128 (by decide) ?_
                refine lv_iconst (v := 0) hx hb dX11_isLaw_130 (by decide) ?_
                refine lv_iload_n hx hb dX11_isLaw_131 rfl (lv_at hl 0 rfl) ?_
                refine lv_iconst (v := 1) hx hb dX11_isLaw_132 (by decide) ?_
                refine lv_isub hx hb dX11_isLaw_133 ?_
                refine cQi (rV (As := [_, _, _, _]) ⟨hx, hb, hml, hown, hts⟩ hw (k_X11_number l o1_7 t8_7 htn a1_7 hn1 (q := n) (fd := 10) hq (by omega) (q_lt hq)) (cv_X11_number hts tw_1243 rfl rfl ⟨Nat.le_of_ble_eq_true rfl, Nat.le_of_ble_eq_true rfl⟩) (by decide) o1_7 rfl rfl hl.1 rfl (by first | exact Nat.le_of_ble_eq_true rfl | decide) dX11_isLaw_134 ⟨Nat.zero_le _, Nat.zero_le _⟩) hw hS (fun r134 w8 H locs hp134 hw hS => ?_)
                obtain ⟨b134, kz134, f134, hX134, rfl, hp134⟩ := hp134
                have o1_8 : w8 32 = .inr (9, [.ref (gad G 33), .ref (gad G 34), .ref (gad G 35), .int (nI (n + 1)), .int (nI n1), .int z, .int hd, .int sd, .ref (gad G 36), .ref (gad G 37), .int (nI rn), .ref (gad G 38), .int (nI tn), .int (nI (tkF tf tn (kz134))), .int (nI (tkP tf tn (kz134 + 1))), .int (nI (tkK tf tn (kz134))), .int (wR tf tn (kz134)), .ref (gad G 39), .ref (gad G 40), .ref (gad G 41), .ref (gad G 42), .ref (gad G 43), .ref (gad G 44), .int (nI n2), .int (nI qn), .int iz, .int (bi im)]) := by rw [hp134]; exact D2_j
                have t8_8 : w8 38 = .inl (gI G, 120, .inl tf) := by rw [hp134]; exact D2_o (by decide) (by decide) t8_7
                have a1_8 : w8 33 = .inl (gI G, 132, .inl f134) := by rw [hp134]; exact D2_i (by decide)
                have x9_8 : w8 39 = .inl (gT G, 4, .inr (.inr (.inr (.inr (fun s => some (gK G s)))))) := by rw [hp134]; exact D2_o (by decide) (by decide) x9_7
                refine zb_eq (tgt := 144) hx hb dX11_isLaw_137 (by decide) (fun c137 => ?_) (fun c137 => ?_)
                · refine lv_iconst (v := 0) hx hb dX11_isLaw_144 (by decide) ?_
                  exact re_Q hx hb hr hlocks (rfl) hw hS dX11_isLaw_145 (⟨false, kz134, f134, n + 1, rLaw_t c6 hlt (by rw [rLawB, bnd_t hX35 c38, bnd_t hX44 c47, bnd_t hX52 c55, bnd_t (show rSpan _ _ _ _ _ = _ from by rw [rSpan, orr_f hX64 c67]) rfl, rExc, orr_t hX120 c123, hX134, c137]), hn1, rfl, by rw [hp134, hp120, hp64, hp52, hp44, hp35, hp30, hp26, hc]; simp only [m1p, m2p, m3p, m4p, m5p]⟩)
                · skip
                  refine lv_iconst (v := 1) hx hb dX11_isLaw_140 (by decide) ?_
                  refine lv_goto (tgt := 145) hx hb dX11_isLaw_141 (by decide) ?_
                  exact re_Q hx hb hr hlocks (rfl) hw hS dX11_isLaw_145 (⟨true, kz134, f134, n + 1, rLaw_t c6 hlt (by rw [rLawB, bnd_t hX35 c38, bnd_t hX44 c47, bnd_t hX52 c55, bnd_t (show rSpan _ _ _ _ _ = _ from by rw [rSpan, orr_f hX64 c67]) rfl, rExc, orr_t hX120 c123, hX134, c137]), hn1, rfl, by rw [hp134, hp120, hp64, hp52, hp44, hp35, hp30, hp26, hc]; simp only [m1p, m2p, m3p, m4p, m5p]⟩)
            · skip
              refine lv_aload_n hx hb dX11_isLaw_70 rfl (lv_at hl 1 rfl) ?_
              refine lv_iload_n hx hb dX11_isLaw_71 rfl (lv_at hl 0 rfl) ?_
              refine lv_bipush (v := 8) hx hb dX11_isLaw_72 (by decide) ?_
              refine lv_iconst (v := 0) hx hb dX11_isLaw_74 (by decide) ?_
              refine lv_sipush (v := 999) hx hb dX11_isLaw_75 (by decide) ?_
              refine cQi (rV (As := [_, _, _, _]) ⟨hx, hb, hml, hown, hts⟩ hw (k_X11_number l o1_6 t8_6 htn a1_6 hn1 (q := n) (fd := 8) hq (by omega) (by decide)) (cv_X11_number hts tw_1243 rfl rfl ⟨Nat.le_of_ble_eq_true rfl, Nat.le_of_ble_eq_true rfl⟩) (by decide) o1_6 rfl rfl hl.1 rfl (by first | exact Nat.le_of_ble_eq_true rfl | decide) dX11_isLaw_78 ⟨Nat.zero_le _, Nat.zero_le _⟩) hw hS (fun r78 w9 H locs hp78 hw hS => ?_)
              obtain ⟨b78, kz78, f78, hX78, rfl, hp78⟩ := hp78
              have o1_9 : w9 32 = .inr (9, [.ref (gad G 33), .ref (gad G 34), .ref (gad G 35), .int (nI (n + 1)), .int (nI n1), .int z, .int hd, .int sd, .ref (gad G 36), .ref (gad G 37), .int (nI rn), .ref (gad G 38), .int (nI tn), .int (nI (tkF tf tn (kz78))), .int (nI (tkP tf tn (kz78 + 1))), .int (nI (tkK tf tn (kz78))), .int (wR tf tn (kz78)), .ref (gad G 39), .ref (gad G 40), .ref (gad G 41), .ref (gad G 42), .ref (gad G 43), .ref (gad G 44), .int (nI n2), .int (nI qn), .int iz, .int (bi im)]) := by rw [hp78]; exact D2_j
              have t8_9 : w9 38 = .inl (gI G, 120, .inl tf) := by rw [hp78]; exact D2_o (by decide) (by decide) t8_6
              have a1_9 : w9 33 = .inl (gI G, 132, .inl f78) := by rw [hp78]; exact D2_i (by decide)
              have x9_9 : w9 39 = .inl (gT G, 4, .inr (.inr (.inr (.inr (fun s => some (gK G s)))))) := by rw [hp78]; exact D2_o (by decide) (by decide) x9_6
              refine zb_eq (tgt := 114) hx hb dX11_isLaw_81 (by decide) (fun c81 => ?_) (fun c81 => ?_)
              · refine lv_iconst (v := 0) hx hb dX11_isLaw_114 (by decide) ?_
                exact re_Q hx hb hr hlocks (rfl) hw hS dX11_isLaw_115 (⟨false, kz78, f78, n + 1, rLaw_t c6 hlt (by rw [rLawB, bnd_t hX35 c38, bnd_t hX44 c47, bnd_t hX52 c55, bnd_f (show rSpan _ _ _ _ _ = _ from by rw [rSpan, orr_t hX64 c67, bnd_f hX78 c81]) rfl]), hn1, rfl, by rw [hp78, hp64, hp52, hp44, hp35, hp30, hp26, hc]; simp only [m1p, m2p, m3p, m4p, m5p]⟩)
              · refine lv_aload_n hx hb dX11_isLaw_84 rfl (lv_at hl 1 rfl) ?_
                refine w_ldcwS hx hb hown (hw.2.2.2.2.1 15 (by decide)).2 dX11_isLaw_85 ?_
                refine cQi (rV (As := [_]) ⟨hx, hb, hml, hown, hts⟩ hw (k_X11_takes l o1_9 t8_9 htn a1_9 hn1 (i := 15) (w := 15) (by omega) rfl) (cv_X11_takes hts tw_1238 rfl rfl ⟨Nat.le_of_ble_eq_true rfl, Nat.le_of_ble_eq_true rfl⟩) (by decide) o1_9 rfl rfl hl.1 rfl (by first | exact Nat.le_of_ble_eq_true rfl | decide) dX11_isLaw_88 ⟨Nat.zero_le _, Nat.zero_le _⟩) hw hS (fun r88 w10 H locs hp88 hw hS => ?_)
                obtain ⟨b88, kz88, f88, hX88, rfl, hp88⟩ := hp88
                have o1_10 : w10 32 = .inr (9, [.ref (gad G 33), .ref (gad G 34), .ref (gad G 35), .int (nI (n + 1)), .int (nI n1), .int z, .int hd, .int sd, .ref (gad G 36), .ref (gad G 37), .int (nI rn), .ref (gad G 38), .int (nI tn), .int (nI (tkF tf tn (kz88))), .int (nI (tkP tf tn (kz88 + 1))), .int (nI (tkK tf tn (kz88))), .int (wR tf tn (kz88)), .ref (gad G 39), .ref (gad G 40), .ref (gad G 41), .ref (gad G 42), .ref (gad G 43), .ref (gad G 44), .int (nI n2), .int (nI qn), .int iz, .int (bi im)]) := by rw [hp88]; exact D2_j
                have t8_10 : w10 38 = .inl (gI G, 120, .inl tf) := by rw [hp88]; exact D2_o (by decide) (by decide) t8_9
                have a1_10 : w10 33 = .inl (gI G, 132, .inl f88) := by rw [hp88]; exact D2_i (by decide)
                have x9_10 : w10 39 = .inl (gT G, 4, .inr (.inr (.inr (.inr (fun s => some (gK G s)))))) := by rw [hp88]; exact D2_o (by decide) (by decide) x9_9
                refine zb_eq (tgt := 114) hx hb dX11_isLaw_91 (by decide) (fun c91 => ?_) (fun c91 => ?_)
                · refine lv_iconst (v := 0) hx hb dX11_isLaw_114 (by decide) ?_
                  exact re_Q hx hb hr hlocks (rfl) hw hS dX11_isLaw_115 (⟨false, kz88, f88, n + 1, rLaw_t c6 hlt (by rw [rLawB, bnd_t hX35 c38, bnd_t hX44 c47, bnd_t hX52 c55, bnd_f (show rSpan _ _ _ _ _ = _ from by rw [rSpan, orr_t hX64 c67, bnd_t hX78 c81, bnd_f hX88 c91]) rfl]), hn1, rfl, by rw [hp88, hp78, hp64, hp52, hp44, hp35, hp30, hp26, hc]; simp only [m1p, m2p, m3p, m4p, m5p]⟩)
                · refine lv_aload_n hx hb dX11_isLaw_94 rfl (lv_at hl 1 rfl) ?_
                  refine lv_iload_n hx hb dX11_isLaw_95 rfl (lv_at hl 0 rfl) ?_
                  refine lv_bipush (v := 9) hx hb dX11_isLaw_96 (by decide) ?_
                  refine lv_aload_n hx hb dX11_isLaw_98 rfl (lv_at hl 1 rfl) ?_
                  refine lv_iload_n hx hb dX11_isLaw_99 rfl (lv_at hl 0 rfl) ?_
                  refine lv_bipush (v := 8) hx hb dX11_isLaw_100 (by decide) ?_
                  refine cSe (rV (As := [_, _]) ⟨hx, hb, hml, hown, hts⟩ hw (k_X11_is l o1_10 a1_10 hn1 (ixm n 8) (by omega)) (cv_X11_is hts tw_993 rfl rfl ⟨Nat.le_of_ble_eq_true rfl, Nat.le_of_ble_eq_true rfl⟩) (by decide) o1_10 rfl rfl hl.1 rfl (by first | exact Nat.le_of_ble_eq_true rfl | decide) dX11_isLaw_102 ⟨Nat.zero_le _, Nat.zero_le _⟩) ?_
                  refine lv_sipush (v := 999) hx hb dX11_isLaw_105 (by decide) ?_
                  refine cQi (rV (As := [_, _, _, _]) ⟨hx, hb, hml, hown, hts⟩ hw (k_X11_number l o1_10 t8_10 htn a1_10 hn1 (q := n) (fd := 9) hq (by omega) (by decide)) (cv_X11_number hts tw_1243 rfl rfl ⟨Nat.le_of_ble_eq_true rfl, Nat.le_of_ble_eq_true rfl⟩) (by decide) o1_10 rfl rfl hl.1 rfl (by first | exact Nat.le_of_ble_eq_true rfl | decide) dX11_isLaw_108 ⟨Nat.zero_le _, Nat.zero_le _⟩) hw hS (fun r108 w11 H locs hp108 hw hS => ?_)
                  obtain ⟨b108, kz108, f108, hX108, rfl, hp108⟩ := hp108
                  have o1_11 : w11 32 = .inr (9, [.ref (gad G 33), .ref (gad G 34), .ref (gad G 35), .int (nI (n + 1)), .int (nI n1), .int z, .int hd, .int sd, .ref (gad G 36), .ref (gad G 37), .int (nI rn), .ref (gad G 38), .int (nI tn), .int (nI (tkF tf tn (kz108))), .int (nI (tkP tf tn (kz108 + 1))), .int (nI (tkK tf tn (kz108))), .int (wR tf tn (kz108)), .ref (gad G 39), .ref (gad G 40), .ref (gad G 41), .ref (gad G 42), .ref (gad G 43), .ref (gad G 44), .int (nI n2), .int (nI qn), .int iz, .int (bi im)]) := by rw [hp108]; exact D2_j
                  have t8_11 : w11 38 = .inl (gI G, 120, .inl tf) := by rw [hp108]; exact D2_o (by decide) (by decide) t8_10
                  have a1_11 : w11 33 = .inl (gI G, 132, .inl f108) := by rw [hp108]; exact D2_i (by decide)
                  have x9_11 : w11 39 = .inl (gT G, 4, .inr (.inr (.inr (.inr (fun s => some (gK G s)))))) := by rw [hp108]; exact D2_o (by decide) (by decide) x9_10
                  refine zb_ne (tgt := 116) hx hb dX11_isLaw_111 (by decide) (fun c111 => ?_) (fun c111 => ?_)
                  · refine lv_aload_n hx hb dX11_isLaw_116 rfl (lv_at hl 1 rfl) ?_
                    refine w_ldcwS hx hb hown (hw.2.2.2.2.1 16 (by decide)).2 dX11_isLaw_117 ?_
                    refine cQi (rV (As := [_]) ⟨hx, hb, hml, hown, hts⟩ hw (k_X11_takes l o1_11 t8_11 htn a1_11 hn1 (i := 16) (w := 16) (by omega) rfl) (cv_X11_takes hts tw_1238 rfl rfl ⟨Nat.le_of_ble_eq_true rfl, Nat.le_of_ble_eq_true rfl⟩) (by decide) o1_11 rfl rfl hl.1 rfl (by first | exact Nat.le_of_ble_eq_true rfl | decide) dX11_isLaw_120 ⟨Nat.zero_le _, Nat.zero_le _⟩) hw hS (fun r120 w12 H locs hp120 hw hS => ?_)
                    obtain ⟨b120, kz120, f120, hX120, rfl, hp120⟩ := hp120
                    have o1_12 : w12 32 = .inr (9, [.ref (gad G 33), .ref (gad G 34), .ref (gad G 35), .int (nI (n + 1)), .int (nI n1), .int z, .int hd, .int sd, .ref (gad G 36), .ref (gad G 37), .int (nI rn), .ref (gad G 38), .int (nI tn), .int (nI (tkF tf tn (kz120))), .int (nI (tkP tf tn (kz120 + 1))), .int (nI (tkK tf tn (kz120))), .int (wR tf tn (kz120)), .ref (gad G 39), .ref (gad G 40), .ref (gad G 41), .ref (gad G 42), .ref (gad G 43), .ref (gad G 44), .int (nI n2), .int (nI qn), .int iz, .int (bi im)]) := by rw [hp120]; exact D2_j
                    have t8_12 : w12 38 = .inl (gI G, 120, .inl tf) := by rw [hp120]; exact D2_o (by decide) (by decide) t8_11
                    have a1_12 : w12 33 = .inl (gI G, 132, .inl f120) := by rw [hp120]; exact D2_i (by decide)
                    have x9_12 : w12 39 = .inl (gT G, 4, .inr (.inr (.inr (.inr (fun s => some (gK G s)))))) := by rw [hp120]; exact D2_o (by decide) (by decide) x9_11
                    refine zb_eq (tgt := 140) hx hb dX11_isLaw_123 (by decide) (fun c123 => ?_) (fun c123 => ?_)
                    · skip
                      refine lv_iconst (v := 1) hx hb dX11_isLaw_140 (by decide) ?_
                      refine lv_goto (tgt := 145) hx hb dX11_isLaw_141 (by decide) ?_
                      exact re_Q hx hb hr hlocks (rfl) hw hS dX11_isLaw_145 (⟨true, kz120, f120, n + 1, rLaw_t c6 hlt (by rw [rLawB, bnd_t hX35 c38, bnd_t hX44 c47, bnd_t hX52 c55, bnd_t (show rSpan _ _ _ _ _ = _ from by rw [rSpan, orr_t hX64 c67, bnd_t hX78 c81, bnd_t hX88 c91, hX108, c111]) rfl, rExc, orr_f hX120 c123]), hn1, rfl, by rw [hp120, hp108, hp88, hp78, hp64, hp52, hp44, hp35, hp30, hp26, hc]; simp only [m1p, m2p, m3p, m4p, m5p]⟩)
                    · refine lv_aload_n hx hb dX11_isLaw_126 rfl (lv_at hl 1 rfl) ?_
                      refine lv_iload_n hx hb dX11_isLaw_127 rfl (lv_at hl 0 rfl) ?_
                      refine lv_bipush (v := 10) hx hb dX11_isLaw_128 (by decide) ?_
                      refine lv_iconst (v := 0) hx hb dX11_isLaw_130 (by decide) ?_
                      refine lv_iload_n hx hb dX11_isLaw_131 rfl (lv_at hl 0 rfl) ?_
                      refine lv_iconst (v := 1) hx hb dX11_isLaw_132 (by decide) ?_
                      refine lv_isub hx hb dX11_isLaw_133 ?_
                      refine cQi (rV (As := [_, _, _, _]) ⟨hx, hb, hml, hown, hts⟩ hw (k_X11_number l o1_12 t8_12 htn a1_12 hn1 (q := n) (fd := 10) hq (by omega) (q_lt hq)) (cv_X11_number hts tw_1243 rfl rfl ⟨Nat.le_of_ble_eq_true rfl, Nat.le_of_ble_eq_true rfl⟩) (by decide) o1_12 rfl rfl hl.1 rfl (by first | exact Nat.le_of_ble_eq_true rfl | decide) dX11_isLaw_134 ⟨Nat.zero_le _, Nat.zero_le _⟩) hw hS (fun r134 w13 H locs hp134 hw hS => ?_)
                      obtain ⟨b134, kz134, f134, hX134, rfl, hp134⟩ := hp134
                      have o1_13 : w13 32 = .inr (9, [.ref (gad G 33), .ref (gad G 34), .ref (gad G 35), .int (nI (n + 1)), .int (nI n1), .int z, .int hd, .int sd, .ref (gad G 36), .ref (gad G 37), .int (nI rn), .ref (gad G 38), .int (nI tn), .int (nI (tkF tf tn (kz134))), .int (nI (tkP tf tn (kz134 + 1))), .int (nI (tkK tf tn (kz134))), .int (wR tf tn (kz134)), .ref (gad G 39), .ref (gad G 40), .ref (gad G 41), .ref (gad G 42), .ref (gad G 43), .ref (gad G 44), .int (nI n2), .int (nI qn), .int iz, .int (bi im)]) := by rw [hp134]; exact D2_j
                      have t8_13 : w13 38 = .inl (gI G, 120, .inl tf) := by rw [hp134]; exact D2_o (by decide) (by decide) t8_12
                      have a1_13 : w13 33 = .inl (gI G, 132, .inl f134) := by rw [hp134]; exact D2_i (by decide)
                      have x9_13 : w13 39 = .inl (gT G, 4, .inr (.inr (.inr (.inr (fun s => some (gK G s)))))) := by rw [hp134]; exact D2_o (by decide) (by decide) x9_12
                      refine zb_eq (tgt := 144) hx hb dX11_isLaw_137 (by decide) (fun c137 => ?_) (fun c137 => ?_)
                      · refine lv_iconst (v := 0) hx hb dX11_isLaw_144 (by decide) ?_
                        exact re_Q hx hb hr hlocks (rfl) hw hS dX11_isLaw_145 (⟨false, kz134, f134, n + 1, rLaw_t c6 hlt (by rw [rLawB, bnd_t hX35 c38, bnd_t hX44 c47, bnd_t hX52 c55, bnd_t (show rSpan _ _ _ _ _ = _ from by rw [rSpan, orr_t hX64 c67, bnd_t hX78 c81, bnd_t hX88 c91, hX108, c111]) rfl, rExc, orr_t hX120 c123, hX134, c137]), hn1, rfl, by rw [hp134, hp120, hp108, hp88, hp78, hp64, hp52, hp44, hp35, hp30, hp26, hc]; simp only [m1p, m2p, m3p, m4p, m5p]⟩)
                      · skip
                        refine lv_iconst (v := 1) hx hb dX11_isLaw_140 (by decide) ?_
                        refine lv_goto (tgt := 145) hx hb dX11_isLaw_141 (by decide) ?_
                        exact re_Q hx hb hr hlocks (rfl) hw hS dX11_isLaw_145 (⟨true, kz134, f134, n + 1, rLaw_t c6 hlt (by rw [rLawB, bnd_t hX35 c38, bnd_t hX44 c47, bnd_t hX52 c55, bnd_t (show rSpan _ _ _ _ _ = _ from by rw [rSpan, orr_t hX64 c67, bnd_t hX78 c81, bnd_t hX88 c91, hX108, c111]) rfl, rExc, orr_t hX120 c123, hX134, c137]), hn1, rfl, by rw [hp134, hp120, hp108, hp88, hp78, hp64, hp52, hp44, hp35, hp30, hp26, hc]; simp only [m1p, m2p, m3p, m4p, m5p]⟩)
                  · refine lv_iconst (v := 0) hx hb dX11_isLaw_114 (by decide) ?_
                    exact re_Q hx hb hr hlocks (rfl) hw hS dX11_isLaw_115 (⟨false, kz108, f108, n + 1, rLaw_t c6 hlt (by rw [rLawB, bnd_t hX35 c38, bnd_t hX44 c47, bnd_t hX52 c55, bnd_f (show rSpan _ _ _ _ _ = _ from by rw [rSpan, orr_t hX64 c67, bnd_t hX78 c81, bnd_t hX88 c91, hX108, c111]) rfl]), hn1, rfl, by rw [hp108, hp88, hp78, hp64, hp52, hp44, hp35, hp30, hp26, hc]; simp only [m1p, m2p, m3p, m4p, m5p]⟩)
          · refine lv_iconst (v := 0) hx hb dX11_isLaw_58 (by decide) ?_
            exact re_Q hx hb hr hlocks (rfl) hw hS dX11_isLaw_59 (⟨false, kz52, f52, n + 1, rLaw_t c6 hlt (by rw [rLawB, bnd_t hX35 c38, bnd_t hX44 c47, bnd_f hX52 c55]), hn1, rfl, by rw [hp52, hp44, hp35, hp30, hp26, hc]; simp only [m1p, m2p, m3p, m4p, m5p]⟩)
    · refine lv_iconst (v := 0) hx hb dX11_isLaw_18 (by decide) ?_
      exact re_Q hx hb hr hlocks (rfl) hw hS dX11_isLaw_19 (⟨false, k, f, n, by rw [rLaw, if_neg (by rw [decide_eq_false (show ¬ n < 12 by have := (nI_eq (b := 12) (by omega) (by omega)).mp c15; omega), Bool.and_false]; decide)], hn, rfl, hc⟩)
theorem rLaw_n {K V : Nat → Int32} {n k k1 n1 : Nat} {f f1 : Nat → Int32} {b : Bool} (h : rLaw K V n k f = (b, k1, f1, n1)) (hb : b = true) : n1 = n + 1 := by
  unfold rLaw at h
  by_cases q : (isW K V k 9 9 && decide (n < 12)) = true
  · rw [if_pos q] at h
    cases h
    rfl
  · rw [if_neg q] at h
    subst hb
    cases h
set_option maxHeartbeats 4000000 in
set_option maxRecDepth 100000 in
theorem k_X11_isText (l : Launch) {G : GT} {c : Nat → va_E} {n n1 rn tn n2 qn : Nat} {z hd sd iz : Int32} {im : Bool} {fr tto tk wo : Int32} (o1 : c 32 = .inr (9, [.ref (gad G 33), .ref (gad G 34), .ref (gad G 35), .int (nI n), .int (nI n1), .int z, .int hd, .int sd, .ref (gad G 36), .ref (gad G 37), .int (nI rn), .ref (gad G 38), .int (nI tn), .int fr, .int tto, .int tk, .int wo, .ref (gad G 39), .ref (gad G 40), .ref (gad G 41), .ref (gad G 42), .ref (gad G 43), .ref (gad G 44), .int (nI n2), .int (nI qn), .int iz, .int (bi im)])) {tf : Nat → Int32} (t8 : c 38 = .inl (gI G, 120, .inl tf)) (htn : tn ≤ 120) {f : Nat → Int32} (a1 : c 33 = .inl (gI G, 132, .inl f)) (hn : n ≤ 12) (x9 : c 39 = .inl (gT G, 4, .inr (.inr (.inr (.inr (fun s => some (gK G s))))))) : Met l yX11_isText (wv yX11_isText cX11_isText 1 (some .boolean)) ({ frames := 9, cells := 0, slots := 0, locals := 196 } : Room) (va_Pc [.ref (gad G 32)] (fun U => Hw G c U U.heap)) (va_Qi (fun r (c9 : Nat → va_E) => ∃ (b9 : Bool) (k9 : Nat) (f9 : Nat → Int32) (n9 : Nat), rText (KK tf tn) (VV tf tn) 13 n 0 f = (b9, k9, f9, n9) ∧ n9 ≤ 12 ∧ r = bi b9 ∧ c9 = D2 33 32 c (.inl (gI G, 132, .inl f9)) (.inr (9, [.ref (gad G 33), .ref (gad G 34), .ref (gad G 35), .int (nI (n9)), .int (nI n1), .int z, .int hd, .int sd, .ref (gad G 36), .ref (gad G 37), .int (nI rn), .ref (gad G 38), .int (nI tn), .int (nI (tkF tf tn (k9))), .int (nI (tkP tf tn (k9 + 1))), .int (nI (tkK tf tn (k9))), .int (wR tf tn (k9)), .ref (gad G 39), .ref (gad G 40), .ref (gad G 41), .ref (gad G 42), .ref (gad G 43), .ref (gad G 44), .int (nI n2), .int (nI qn), .int iz, .int (bi im)]))) (fun c9 t => Hw G c9 t t.heap) (gA G)) 0 0 (gA G) := by
  refine en (by decide +kernel) (by first | exact Nat.le_of_ble_eq_true rfl | decide) ?_
  intro p e s m below meth cd ls hx hb hr hml hown hts hlocks hnm hw hl
  have hl : lv_has ls 1 [(0, .ref (gad G 32))] := hl
  have hX : Sw G s s.heap := hw.2.2.2.2.2
  have hS : va_S (gA G) s.heap s.heap [] := va_S.rf
  obtain ⟨H, hH⟩ : ∃ wz9, wz9 = s.heap := ⟨_, rfl⟩
  obtain ⟨locs, hlocs⟩ : ∃ wz9 : List Loc, wz9 = [] := ⟨_, rfl⟩
  have hw : Hw G c s H := by rw [hH]; exact hw
  have hS : va_S (gA G) s.heap H locs := by rw [hH, hlocs]; exact hS
  suffices hgo : W p l e ({ frames := 9, cells := 0, slots := 0, locals := 196 } : Room) s m (([.ref (gad G 32)] : List Value).toArray) below meth cd H locs 0 0 (MQ below (va_Qi (fun r (c9 : Nat → va_E) => ∃ (b9 : Bool) (k9 : Nat) (f9 : Nat → Int32) (n9 : Nat), rText (KK tf tn) (VV tf tn) 13 n 0 f = (b9, k9, f9, n9) ∧ n9 ≤ 12 ∧ r = bi b9 ∧ c9 = D2 33 32 c (.inl (gI G, 132, .inl f9)) (.inr (9, [.ref (gad G 33), .ref (gad G 34), .ref (gad G 35), .int (nI (n9)), .int (nI n1), .int z, .int hd, .int sd, .ref (gad G 36), .ref (gad G 37), .int (nI rn), .ref (gad G 38), .int (nI tn), .int (nI (tkF tf tn (k9))), .int (nI (tkP tf tn (k9 + 1))), .int (nI (tkK tf tn (k9))), .int (wR tf tn (k9)), .ref (gad G 39), .ref (gad G 40), .ref (gad G 41), .ref (gad G 42), .ref (gad G 43), .ref (gad G 44), .int (nI n2), .int (nI qn), .int iz, .int (bi im)]))) (fun c9 t => Hw G c9 t t.heap) (gA G)) ([.ref (gad G 32)] : List Value).toArray s 0 0 (gA G)) (F0 m 0 ls []) by rw [hH, hlocs] at hgo; exact hgo
  refine lv_aload_n hx hb dX11_isText_0 rfl (lv_at hl 0 rfl) ?_
  refine lv_iconst (v := 0) hx hb dX11_isText_1 (by decide) ?_
  refine w_put (C := RX11) (T := TX11) (N := 27) (v := .int (nI 0)) 14 tyX11 hx hb hts inX11 tyX11_ok nmX11 hown hw hX hS (by decide) o1 rfl (by decide) (hts _ tw_899) rfl rfl (rfl) (rfl) (Nat.le_of_ble_eq_true rfl) dX11_isText_2 (fun H locs hw hS => ?_)
  obtain ⟨w2, ew2⟩ : ∃ wz9 : Nat → va_E, wz9 = va_up c 32 (.inr (9, [.ref (gad G 33), .ref (gad G 34), .ref (gad G 35), .int (nI n), .int (nI n1), .int z, .int hd, .int sd, .ref (gad G 36), .ref (gad G 37), .int (nI rn), .ref (gad G 38), .int (nI tn), .int fr, .int (nI 0), .int tk, .int wo, .ref (gad G 39), .ref (gad G 40), .ref (gad G 41), .ref (gad G 42), .ref (gad G 43), .ref (gad G 44), .int (nI n2), .int (nI qn), .int iz, .int (bi im)])) := ⟨_, rfl⟩
  have hw : Hw G w2 s H := by rw [ew2]; exact hw
  have o1_2 : w2 32 = .inr (9, [.ref (gad G 33), .ref (gad G 34), .ref (gad G 35), .int (nI n), .int (nI n1), .int z, .int hd, .int sd, .ref (gad G 36), .ref (gad G 37), .int (nI rn), .ref (gad G 38), .int (nI tn), .int fr, .int (nI 0), .int tk, .int wo, .ref (gad G 39), .ref (gad G 40), .ref (gad G 41), .ref (gad G 42), .ref (gad G 43), .ref (gad G 44), .int (nI n2), .int (nI qn), .int iz, .int (bi im)]) := by rw [ew2]; exact vu_s
  have t8_2 : w2 38 = .inl (gI G, 120, .inl tf) := by rw [ew2]; exact vu_e (by decide) t8
  have a1_2 : w2 33 = .inl (gI G, 132, .inl f) := by rw [ew2]; exact vu_e (by decide) a1
  have x9_2 : w2 39 = .inl (gT G, 4, .inr (.inr (.inr (.inr (fun s => some (gK G s)))))) := by rw [ew2]; exact vu_e (by decide) x9
  refine lv_aload_n hx hb dX11_isText_5 rfl (lv_at hl 0 rfl) ?_
  refine cQv (rV (As := []) ⟨hx, hb, hml, hown, hts⟩ hw (k_X11_goesOn l o1_2 t8_2 htn (x := 0) (Nat.zero_le _)) (cv_X11_goesOn hts tw_1214 rfl rfl ⟨Nat.le_of_ble_eq_true rfl, Nat.le_of_ble_eq_true rfl⟩) (by decide) o1_2 rfl rfl hl.1 rfl (by first | exact Nat.le_of_ble_eq_true rfl | decide) dX11_isText_6 ⟨Nat.zero_le _, Nat.zero_le _⟩) hw hS (fun w3 H locs hp6 hw hS => ?_)
  have o1_3 : w3 32 = .inr (9, [.ref (gad G 33), .ref (gad G 34), .ref (gad G 35), .int (nI (n)), .int (nI n1), .int z, .int hd, .int sd, .ref (gad G 36), .ref (gad G 37), .int (nI rn), .ref (gad G 38), .int (nI tn), .int (nI (tkF tf tn (0))), .int (nI (tkP tf tn (0 + 1))), .int (nI (tkK tf tn (0))), .int (wR tf tn (0)), .ref (gad G 39), .ref (gad G 40), .ref (gad G 41), .ref (gad G 42), .ref (gad G 43), .ref (gad G 44), .int (nI n2), .int (nI qn), .int iz, .int (bi im)]) := by rw [hp6]; exact vu_s
  have t8_3 : w3 38 = .inl (gI G, 120, .inl tf) := by rw [hp6]; exact vu_e (by decide) t8_2
  have a1_3 : w3 33 = .inl (gI G, 132, .inl f) := by rw [hp6]; exact vu_e (by decide) a1_2
  have x9_3 : w3 39 = .inl (gT G, 4, .inr (.inr (.inr (.inr (fun s => some (gK G s)))))) := by rw [hp6]; exact vu_e (by decide) x9_2
  have L9 : ∀ (N : Nat) (n7 k7 : Nat) (f7 : Nat → Int32), (13 ≤ n7 + N) → (n7 ≤ 12) → (rText (KK tf tn) (VV tf tn) 13 n 0 f = rText (KK tf tn) (VV tf tn) N n7 k7 f7) → ∀ (c0 : Nat → va_E) (H : Heap) (locs : List Loc), (c0 = D2 33 32 c (.inl (gI G, 132, .inl f7)) (.inr (9, [.ref (gad G 33), .ref (gad G 34), .ref (gad G 35), .int (nI (n7)), .int (nI n1), .int z, .int hd, .int sd, .ref (gad G 36), .ref (gad G 37), .int (nI rn), .ref (gad G 38), .int (nI tn), .int (nI (tkF tf tn (k7))), .int (nI (tkP tf tn (k7 + 1))), .int (nI (tkK tf tn (k7))), .int (wR tf tn (k7)), .ref (gad G 39), .ref (gad G 40), .ref (gad G 41), .ref (gad G 42), .ref (gad G 43), .ref (gad G 44), .int (nI n2), .int (nI qn), .int iz, .int (bi im)]))) → Hw G c0 s H → va_S (gA G) s.heap H locs → ∀ ls : Array Slot, lv_has ls 1 [(0, .ref (gad G 32))] → W p l e ({ frames := 9, cells := 0, slots := 0, locals := 196 } : Room) s m (([.ref (gad G 32)] : List Value).toArray) below meth cd H locs 0 0 (MQ below (va_Qi (fun r (c9 : Nat → va_E) => ∃ (b9 : Bool) (k9 : Nat) (f9 : Nat → Int32) (n9 : Nat), rText (KK tf tn) (VV tf tn) 13 n 0 f = (b9, k9, f9, n9) ∧ n9 ≤ 12 ∧ r = bi b9 ∧ c9 = D2 33 32 c (.inl (gI G, 132, .inl f9)) (.inr (9, [.ref (gad G 33), .ref (gad G 34), .ref (gad G 35), .int (nI (n9)), .int (nI n1), .int z, .int hd, .int sd, .ref (gad G 36), .ref (gad G 37), .int (nI rn), .ref (gad G 38), .int (nI tn), .int (nI (tkF tf tn (k9))), .int (nI (tkP tf tn (k9 + 1))), .int (nI (tkK tf tn (k9))), .int (wR tf tn (k9)), .ref (gad G 39), .ref (gad G 40), .ref (gad G 41), .ref (gad G 42), .ref (gad G 43), .ref (gad G 44), .int (nI n2), .int (nI qn), .int iz, .int (bi im)]))) (fun c9 t => Hw G c9 t t.heap) (gA G)) ([.ref (gad G 32)] : List Value).toArray s 0 0 (gA G)) (F0 m 9 ls []) := by
    intro N
    induction N with
    | zero =>
      intro n7 k7  f7  hN hn7 hR c0 H locs e0 hw hS ls hl
      exfalso
      omega
    | succ N ih =>
      intro n7 k7  f7  hN hn7 hR c0 H locs e0 hw hS ls hl
      have o1 : c0 32 = .inr (9, [.ref (gad G 33), .ref (gad G 34), .ref (gad G 35), .int (nI (n7)), .int (nI n1), .int z, .int hd, .int sd, .ref (gad G 36), .ref (gad G 37), .int (nI rn), .ref (gad G 38), .int (nI tn), .int (nI (tkF tf tn (k7))), .int (nI (tkP tf tn (k7 + 1))), .int (nI (tkK tf tn (k7))), .int (wR tf tn (k7)), .ref (gad G 39), .ref (gad G 40), .ref (gad G 41), .ref (gad G 42), .ref (gad G 43), .ref (gad G 44), .int (nI n2), .int (nI qn), .int iz, .int (bi im)]) := by rw [e0]; exact D2_j
      have a1 : c0 33 = .inl (gI G, 132, .inl f7) := by rw [e0]; exact D2_i (by decide)
      have t8 : c0 38 = .inl (gI G, 120, .inl tf) := by rw [e0]; exact D2_o (by decide) (by decide) t8
      have x9 : c0 39 = .inl (gT G, 4, .inr (.inr (.inr (.inr (fun s => some (gK G s)))))) := by rw [e0]; exact D2_o (by decide) (by decide) x9
      refine lv_aload_n hx hb dX11_isText_9 rfl (lv_at hl 0 rfl) ?_
      refine cQi (rV (As := []) ⟨hx, hb, hml, hown, hts⟩ hw (k_X11_isLaw l o1 t8 htn a1 hn7 x9) (cv_X11_isLaw hts tw_1222 rfl rfl ⟨Nat.le_of_ble_eq_true rfl, Nat.le_of_ble_eq_true rfl⟩) (by decide) o1 rfl rfl hl.1 rfl (by first | exact Nat.le_of_ble_eq_true rfl | decide) dX11_isText_10 ⟨Nat.zero_le _, Nat.zero_le _⟩) hw hS (fun r10 w4 H locs hp10 hw hS => ?_)
      obtain ⟨b10, kz10, f10, n10, hX10, hn10, rfl, hp10⟩ := hp10
      have o1_4 : w4 32 = .inr (9, [.ref (gad G 33), .ref (gad G 34), .ref (gad G 35), .int (nI (n10)), .int (nI n1), .int z, .int hd, .int sd, .ref (gad G 36), .ref (gad G 37), .int (nI rn), .ref (gad G 38), .int (nI tn), .int (nI (tkF tf tn (kz10))), .int (nI (tkP tf tn (kz10 + 1))), .int (nI (tkK tf tn (kz10))), .int (wR tf tn (kz10)), .ref (gad G 39), .ref (gad G 40), .ref (gad G 41), .ref (gad G 42), .ref (gad G 43), .ref (gad G 44), .int (nI n2), .int (nI qn), .int iz, .int (bi im)]) := by rw [hp10]; exact D2_j
      have t8_4 : w4 38 = .inl (gI G, 120, .inl tf) := by rw [hp10]; exact D2_o (by decide) (by decide) t8
      have a1_4 : w4 33 = .inl (gI G, 132, .inl f10) := by rw [hp10]; exact D2_i (by decide)
      have x9_4 : w4 39 = .inl (gT G, 4, .inr (.inr (.inr (.inr (fun s => some (gK G s)))))) := by rw [hp10]; exact D2_o (by decide) (by decide) x9
      refine zb_ne (tgt := 18) hx hb dX11_isText_13 (by decide) (fun c13 => ?_) (fun c13 => ?_)
      · refine lv_aload_n hx hb dX11_isText_18 rfl (lv_at hl 0 rfl) ?_
        refine w_get (C := RX11) (T := TX11) (N := 27) 15 hx hb hts inX11 hown hw (by decide) o1_4 rfl (by decide) (hts _ tw_900) rfl dX11_isText_19 ?_
        refine lv_if_ne (tgt := 27) hx hb dX11_isText_22 (by decide) (fun c22 => ?_) (fun c22 => ?_)
        · refine lv_aload_n hx hb dX11_isText_27 rfl (lv_at hl 0 rfl) ?_
          refine w_get (C := RX11) (T := TX11) (N := 27) 15 hx hb hts inX11 hown hw (by decide) o1_4 rfl (by decide) (hts _ tw_900) rfl dX11_isText_28 ?_
          refine lv_iconst (v := 3) hx hb dX11_isText_31 (by decide) ?_
          refine lv_icmp_eq (tgt := 37) hx hb dX11_isText_32 (by decide) (fun c32 => ?_) (fun c32 => ?_)
          · refine lv_aload_n hx hb dX11_isText_37 rfl (lv_at hl 0 rfl) ?_
            refine cQv (rV (As := []) ⟨hx, hb, hml, hown, hts⟩ hw (k_X11_goesOn l o1_4 t8_4 htn (tkP_le _)) (cv_X11_goesOn hts tw_1214 rfl rfl ⟨Nat.le_of_ble_eq_true rfl, Nat.le_of_ble_eq_true rfl⟩) (by decide) o1_4 rfl rfl hl.1 rfl (by first | exact Nat.le_of_ble_eq_true rfl | decide) dX11_isText_38 ⟨Nat.zero_le _, Nat.zero_le _⟩) hw hS (fun w5 H locs hp38 hw hS => ?_)
            have o1_5 : w5 32 = .inr (9, [.ref (gad G 33), .ref (gad G 34), .ref (gad G 35), .int (nI (n10)), .int (nI n1), .int z, .int hd, .int sd, .ref (gad G 36), .ref (gad G 37), .int (nI rn), .ref (gad G 38), .int (nI tn), .int (nI (tkF tf tn ((kz10 + 1)))), .int (nI (tkP tf tn ((kz10 + 1) + 1))), .int (nI (tkK tf tn ((kz10 + 1)))), .int (wR tf tn ((kz10 + 1))), .ref (gad G 39), .ref (gad G 40), .ref (gad G 41), .ref (gad G 42), .ref (gad G 43), .ref (gad G 44), .int (nI n2), .int (nI qn), .int iz, .int (bi im)]) := by rw [hp38]; exact vu_s
            have t8_5 : w5 38 = .inl (gI G, 120, .inl tf) := by rw [hp38]; exact vu_e (by decide) t8_4
            have a1_5 : w5 33 = .inl (gI G, 132, .inl f10) := by rw [hp38]; exact vu_e (by decide) a1_4
            have x9_5 : w5 39 = .inl (gT G, 4, .inr (.inr (.inr (.inr (fun s => some (gK G s)))))) := by rw [hp38]; exact vu_e (by decide) x9_4
            refine lv_goto (tgt := 9) hx hb dX11_isText_41 (by decide) ?_
            exact ih n10 (kz10 + 1) f10 (by have := rLaw_n hX10 c13; omega) hn10 (by rw [hR, rText_s hX10 c13 c32]) _ H locs (by rw [hp38, hp10, e0, m2p, m3p]; rfl) hw hS ls (lv_sub hl [0] rfl)
          · refine lv_iconst (v := 0) hx hb dX11_isText_35 (by decide) ?_
            exact re_Q hx hb hr hlocks (rfl) hw hS dX11_isText_36 (⟨false, kz10, f10, n10, by rw [hR, rText_x hX10 c13 c22 c32], hn10, rfl, by rw [hp10, e0, m3p]⟩)
        · refine lv_iconst (v := 1) hx hb dX11_isText_25 (by decide) ?_
          exact re_Q hx hb hr hlocks (rfl) hw hS dX11_isText_26 (⟨true, kz10, f10, n10, by rw [hR, rText_e hX10 c13 c22], hn10, rfl, by rw [hp10, e0, m3p]⟩)
      · refine lv_iconst (v := 0) hx hb dX11_isText_16 (by decide) ?_
        exact re_Q hx hb hr hlocks (rfl) hw hS dX11_isText_17 (⟨false, kz10, f10, n10, by rw [hR, rText_f hX10 c13], hn10, rfl, by rw [hp10, e0, m3p]⟩)
  exact L9 13 n 0 f (by omega) hn rfl _ H locs (by rw [hp6, ew2, up_up, D2, up_id a1]; rfl) hw hS ls (lv_sub hl [0] rfl)
set_option maxHeartbeats 4000000 in
set_option maxRecDepth 100000 in
theorem k_X11_text (l : Launch) {G : GT} {c : Nat → va_E} {n n1 rn tn n2 qn : Nat} {z hd sd iz : Int32} {im : Bool} {fr tto tk wo : Int32} (o1 : c 32 = .inr (9, [.ref (gad G 33), .ref (gad G 34), .ref (gad G 35), .int (nI n), .int (nI n1), .int z, .int hd, .int sd, .ref (gad G 36), .ref (gad G 37), .int (nI rn), .ref (gad G 38), .int (nI tn), .int fr, .int tto, .int tk, .int wo, .ref (gad G 39), .ref (gad G 40), .ref (gad G 41), .ref (gad G 42), .ref (gad G 43), .ref (gad G 44), .int (nI n2), .int (nI qn), .int iz, .int (bi im)])) {tf : Nat → Int32} (t8 : c 38 = .inl (gI G, 120, .inl tf)) (htn : tn ≤ 120) {f : Nat → Int32} (a1 : c 33 = .inl (gI G, 132, .inl f)) (hn : n ≤ 12) (x9 : c 39 = .inl (gT G, 4, .inr (.inr (.inr (.inr (fun s => some (gK G s))))))) : Met l yX11_text (wv yX11_text cX11_text 3 (some .int)) ({ frames := 10, cells := 0, slots := 0, locals := 216 } : Room) (va_Pc [.ref (gad G 32)] (fun U => Hw G c U U.heap)) (va_Qi (fun r (c9 : Nat → va_E) => ∃ (b9 : Bool) (k9 : Nat) (f9 : Nat → Int32) (n9 : Nat), rText (KK tf tn) (VV tf tn) 13 n 0 f = (b9, k9, f9, n9) ∧ n9 ≤ 12 ∧ r = (if b9 = true then nI n9 - nI n else -100 - nI (tkF tf tn k9)) ∧ c9 = D2 33 32 c (.inl (gI G, 132, .inl f9)) (.inr (9, [.ref (gad G 33), .ref (gad G 34), .ref (gad G 35), .int (nI (if b9 = true then n9 else n)), .int (nI n1), .int z, .int hd, .int sd, .ref (gad G 36), .ref (gad G 37), .int (nI rn), .ref (gad G 38), .int (nI 0), .int (nI (tkF tf tn (k9))), .int (nI (tkP tf tn (k9 + 1))), .int (nI (tkK tf tn (k9))), .int (wR tf tn (k9)), .ref (gad G 39), .ref (gad G 40), .ref (gad G 41), .ref (gad G 42), .ref (gad G 43), .ref (gad G 44), .int (nI n2), .int (nI qn), .int iz, .int (bi im)]))) (fun c9 t => Hw G c9 t t.heap) (gA G)) 0 0 (gA G) := by
  refine en (by decide +kernel) (by first | exact Nat.le_of_ble_eq_true rfl | decide) ?_
  intro p e s m below meth cd ls hx hb hr hml hown hts hlocks hnm hw hl
  have hl : lv_has ls 3 [(0, .ref (gad G 32))] := hl
  have hX : Sw G s s.heap := hw.2.2.2.2.2
  have hS : va_S (gA G) s.heap s.heap [] := va_S.rf
  obtain ⟨H, hH⟩ : ∃ wz9, wz9 = s.heap := ⟨_, rfl⟩
  obtain ⟨locs, hlocs⟩ : ∃ wz9 : List Loc, wz9 = [] := ⟨_, rfl⟩
  have hw : Hw G c s H := by rw [hH]; exact hw
  have hS : va_S (gA G) s.heap H locs := by rw [hH, hlocs]; exact hS
  suffices hgo : W p l e ({ frames := 10, cells := 0, slots := 0, locals := 216 } : Room) s m (([.ref (gad G 32)] : List Value).toArray) below meth cd H locs 0 0 (MQ below (va_Qi (fun r (c9 : Nat → va_E) => ∃ (b9 : Bool) (k9 : Nat) (f9 : Nat → Int32) (n9 : Nat), rText (KK tf tn) (VV tf tn) 13 n 0 f = (b9, k9, f9, n9) ∧ n9 ≤ 12 ∧ r = (if b9 = true then nI n9 - nI n else -100 - nI (tkF tf tn k9)) ∧ c9 = D2 33 32 c (.inl (gI G, 132, .inl f9)) (.inr (9, [.ref (gad G 33), .ref (gad G 34), .ref (gad G 35), .int (nI (if b9 = true then n9 else n)), .int (nI n1), .int z, .int hd, .int sd, .ref (gad G 36), .ref (gad G 37), .int (nI rn), .ref (gad G 38), .int (nI 0), .int (nI (tkF tf tn (k9))), .int (nI (tkP tf tn (k9 + 1))), .int (nI (tkK tf tn (k9))), .int (wR tf tn (k9)), .ref (gad G 39), .ref (gad G 40), .ref (gad G 41), .ref (gad G 42), .ref (gad G 43), .ref (gad G 44), .int (nI n2), .int (nI qn), .int iz, .int (bi im)]))) (fun c9 t => Hw G c9 t t.heap) (gA G)) ([.ref (gad G 32)] : List Value).toArray s 0 0 (gA G)) (F0 m 0 ls []) by rw [hH, hlocs] at hgo; exact hgo
  refine lv_aload_n hx hb dX11_text_0 rfl (lv_at hl 0 rfl) ?_
  refine w_get (C := RX11) (T := TX11) (N := 27) 3 hx hb hts inX11 hown hw (by decide) o1 rfl (by decide) (hts _ tw_888) rfl dX11_text_1 ?_
  refine lv_istore_n (lv' := [(1, _), (0, _)]) hx hb dX11_text_4 rfl hl (by decide) rfl (fun ls hl => ?_)
  refine lv_aload_n hx hb dX11_text_5 rfl (lv_at hl 1 rfl) ?_
  refine cQi (rV (As := []) ⟨hx, hb, hml, hown, hts⟩ hw (k_X11_isText l o1 t8 htn a1 hn x9) (cv_X11_isText hts tw_1210 rfl rfl ⟨Nat.le_of_ble_eq_true rfl, Nat.le_of_ble_eq_true rfl⟩) (by decide) o1 rfl rfl hl.1 rfl (by first | exact Nat.le_of_ble_eq_true rfl | decide) dX11_text_6 ⟨Nat.zero_le _, Nat.zero_le _⟩) hw hS (fun r6 w1 H locs hp6 hw hS => ?_)
  obtain ⟨b6, kz6, f6, n6, hX6, hn6, rfl, hp6⟩ := hp6
  have o1_1 : w1 32 = .inr (9, [.ref (gad G 33), .ref (gad G 34), .ref (gad G 35), .int (nI (n6)), .int (nI n1), .int z, .int hd, .int sd, .ref (gad G 36), .ref (gad G 37), .int (nI rn), .ref (gad G 38), .int (nI tn), .int (nI (tkF tf tn (kz6))), .int (nI (tkP tf tn (kz6 + 1))), .int (nI (tkK tf tn (kz6))), .int (wR tf tn (kz6)), .ref (gad G 39), .ref (gad G 40), .ref (gad G 41), .ref (gad G 42), .ref (gad G 43), .ref (gad G 44), .int (nI n2), .int (nI qn), .int iz, .int (bi im)]) := by rw [hp6]; exact D2_j
  have t8_1 : w1 38 = .inl (gI G, 120, .inl tf) := by rw [hp6]; exact D2_o (by decide) (by decide) t8
  have a1_1 : w1 33 = .inl (gI G, 132, .inl f6) := by rw [hp6]; exact D2_i (by decide)
  have x9_1 : w1 39 = .inl (gT G, 4, .inr (.inr (.inr (.inr (fun s => some (gK G s)))))) := by rw [hp6]; exact D2_o (by decide) (by decide) x9
  refine lv_istore_n (lv' := [(2, _), (1, _), (0, _)]) hx hb dX11_text_9 rfl hl (by decide) rfl (fun ls hl => ?_)
  refine lv_aload_n hx hb dX11_text_10 rfl (lv_at hl 2 rfl) ?_
  refine lv_iconst (v := 0) hx hb dX11_text_11 (by decide) ?_
  refine w_put (C := RX11) (T := TX11) (N := 27) (v := .int (nI 0)) 12 tyX11 hx hb hts inX11 tyX11_ok nmX11 hown hw hX hS (by decide) o1_1 rfl (by decide) (hts _ tw_897) rfl rfl (rfl) (rfl) (Nat.le_of_ble_eq_true rfl) dX11_text_12 (fun H locs hw hS => ?_)
  obtain ⟨w3, ew3⟩ : ∃ wz9 : Nat → va_E, wz9 = va_up w1 32 (.inr (9, [.ref (gad G 33), .ref (gad G 34), .ref (gad G 35), .int (nI (n6)), .int (nI n1), .int z, .int hd, .int sd, .ref (gad G 36), .ref (gad G 37), .int (nI rn), .ref (gad G 38), .int (nI 0), .int (nI (tkF tf tn (kz6))), .int (nI (tkP tf tn (kz6 + 1))), .int (nI (tkK tf tn (kz6))), .int (wR tf tn (kz6)), .ref (gad G 39), .ref (gad G 40), .ref (gad G 41), .ref (gad G 42), .ref (gad G 43), .ref (gad G 44), .int (nI n2), .int (nI qn), .int iz, .int (bi im)])) := ⟨_, rfl⟩
  have hw : Hw G w3 s H := by rw [ew3]; exact hw
  have o1_3 : w3 32 = .inr (9, [.ref (gad G 33), .ref (gad G 34), .ref (gad G 35), .int (nI (n6)), .int (nI n1), .int z, .int hd, .int sd, .ref (gad G 36), .ref (gad G 37), .int (nI rn), .ref (gad G 38), .int (nI 0), .int (nI (tkF tf tn (kz6))), .int (nI (tkP tf tn (kz6 + 1))), .int (nI (tkK tf tn (kz6))), .int (wR tf tn (kz6)), .ref (gad G 39), .ref (gad G 40), .ref (gad G 41), .ref (gad G 42), .ref (gad G 43), .ref (gad G 44), .int (nI n2), .int (nI qn), .int iz, .int (bi im)]) := by rw [ew3]; exact vu_s
  have t8_3 : w3 38 = .inl (gI G, 120, .inl tf) := by rw [ew3]; exact vu_e (by decide) t8_1
  have a1_3 : w3 33 = .inl (gI G, 132, .inl f6) := by rw [ew3]; exact vu_e (by decide) a1_1
  have x9_3 : w3 39 = .inl (gT G, 4, .inr (.inr (.inr (.inr (fun s => some (gK G s)))))) := by rw [ew3]; exact vu_e (by decide) x9_1
  refine lv_iload_n hx hb dX11_text_15 rfl (lv_at hl 0 rfl) ?_
  refine zb_eq (tgt := 26) hx hb dX11_text_16 (by decide) (fun c16 => ?_) (fun c16 => ?_)
  · refine lv_aload_n hx hb dX11_text_26 rfl (lv_at hl 2 rfl) ?_
    refine lv_iload_n hx hb dX11_text_27 rfl (lv_at hl 1 rfl) ?_
    refine w_put (C := RX11) (T := TX11) (N := 27) (v := .int (nI n)) 3 tyX11 hx hb hts inX11 tyX11_ok nmX11 hown hw hX hS (by decide) o1_3 rfl (by decide) (hts _ tw_888) rfl rfl (rfl) (rfl) (Nat.le_of_ble_eq_true rfl) dX11_text_28 (fun H locs hw hS => ?_)
    obtain ⟨w5, ew5⟩ : ∃ wz9 : Nat → va_E, wz9 = va_up w3 32 (.inr (9, [.ref (gad G 33), .ref (gad G 34), .ref (gad G 35), .int (nI n), .int (nI n1), .int z, .int hd, .int sd, .ref (gad G 36), .ref (gad G 37), .int (nI rn), .ref (gad G 38), .int (nI 0), .int (nI (tkF tf tn (kz6))), .int (nI (tkP tf tn (kz6 + 1))), .int (nI (tkK tf tn (kz6))), .int (wR tf tn (kz6)), .ref (gad G 39), .ref (gad G 40), .ref (gad G 41), .ref (gad G 42), .ref (gad G 43), .ref (gad G 44), .int (nI n2), .int (nI qn), .int iz, .int (bi im)])) := ⟨_, rfl⟩
    have hw : Hw G w5 s H := by rw [ew5]; exact hw
    have o1_5 : w5 32 = .inr (9, [.ref (gad G 33), .ref (gad G 34), .ref (gad G 35), .int (nI n), .int (nI n1), .int z, .int hd, .int sd, .ref (gad G 36), .ref (gad G 37), .int (nI rn), .ref (gad G 38), .int (nI 0), .int (nI (tkF tf tn (kz6))), .int (nI (tkP tf tn (kz6 + 1))), .int (nI (tkK tf tn (kz6))), .int (wR tf tn (kz6)), .ref (gad G 39), .ref (gad G 40), .ref (gad G 41), .ref (gad G 42), .ref (gad G 43), .ref (gad G 44), .int (nI n2), .int (nI qn), .int iz, .int (bi im)]) := by rw [ew5]; exact vu_s
    have t8_5 : w5 38 = .inl (gI G, 120, .inl tf) := by rw [ew5]; exact vu_e (by decide) t8_3
    have a1_5 : w5 33 = .inl (gI G, 132, .inl f6) := by rw [ew5]; exact vu_e (by decide) a1_3
    have x9_5 : w5 39 = .inl (gT G, 4, .inr (.inr (.inr (.inr (fun s => some (gK G s)))))) := by rw [ew5]; exact vu_e (by decide) x9_3
    refine lv_bipush (v := (-100)) hx hb dX11_text_31 (by decide) ?_
    refine lv_aload_n hx hb dX11_text_33 rfl (lv_at hl 2 rfl) ?_
    refine w_get (C := RX11) (T := TX11) (N := 27) 13 hx hb hts inX11 hown hw (by decide) o1_5 rfl (by decide) (hts _ tw_898) rfl dX11_text_34 ?_
    refine lv_isub hx hb dX11_text_37 ?_
    exact re_Q hx hb hr hlocks (rfl) hw hS dX11_text_38 (⟨false, kz6, f6, n6, by rw [hX6, c16], hn6, rfl, by rw [ew5, ew3, hp6, m2p, m2p]; rfl⟩)
  · refine lv_aload_n hx hb dX11_text_19 rfl (lv_at hl 2 rfl) ?_
    refine w_get (C := RX11) (T := TX11) (N := 27) 3 hx hb hts inX11 hown hw (by decide) o1_3 rfl (by decide) (hts _ tw_888) rfl dX11_text_20 ?_
    refine lv_iload_n hx hb dX11_text_23 rfl (lv_at hl 1 rfl) ?_
    refine lv_isub hx hb dX11_text_24 ?_
    exact re_Q hx hb hr hlocks (rfl) hw hS dX11_text_25 (⟨true, kz6, f6, n6, by rw [hX6, c16], hn6, rfl, by rw [ew3, hp6, m2p]; rfl⟩)
