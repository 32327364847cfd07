/-! THE TEXT, by the class -/
def KK (tf : Nat → Int32) (tn : Nat) : Nat → Int32 := fun k => nI (tkK tf tn k)
def VV (tf : Nat → Int32) (tn : Nat) : Nat → Int32 := fun k => tkV tf tn k
theorem tkK_4 {tf : Nat → Int32} {tn k : Nat} : tkK tf tn k ≤ 4 := by
  unfold tkK kK
  repeat' split
  all_goals omega
theorem TKS.at {tf : Nat → Int32} {tn : Nat} {kk ks kv : Nat → Int32} {kn : Nat} (h : TKS tf tn kk ks kv kn) : ∀ x, x < kn → kk x = KK tf tn x ∧ kv x = VV tf tn x := fun x hx => ⟨(h.2.2.1 x hx).1, (h.2.2.1 x hx).2.2⟩
theorem TKS.on {tf : Nat → Int32} {tn : Nat} {kk ks kv : Nat → Int32} {kn : Nat} (h : TKS tf tn kk ks kv kn) : ∀ x, x < kn → KK tf tn x ≠ 0 → x + 1 < kn := by
  intro x hx h0
  rcases Nat.lt_or_ge (x + 1) kn with q | q
  · exact q
  · have : x = kn - 1 := by omega
    have h2 := h.2.2.2.2
    rw [← this] at h2
    exact absurd (show nI (tkK tf tn x) = 0 by rw [h2]; rfl) h0
theorem r6p {c : Nat → va_E} {x y a b a2 b2 : va_E} : D2 2 11 (va_up (D2 2 11 (va_up c 1 x) a b) 1 y) a2 b2 = D2 2 11 (va_up c 1 y) a2 b2 := by
  funext k
  unfold D2 va_up
  repeat' split
  all_goals first | rfl | omega
theorem txw_t {w : Nat → va_E} {x a b t : va_E} : va_up (D2 2 11 (va_up w 1 x) a b) 9 t = va_up (va_up (D2 2 11 w a b) 9 t) 1 x := by
  funext k
  unfold D2 va_up
  repeat' split
  all_goals first | rfl | omega
theorem txw_f {w : Nat → va_E} {x y a b t : va_E} : va_up (va_up (D2 2 11 (va_up w 1 x) a b) 9 t) 1 y = va_up (va_up (D2 2 11 w a b) 9 t) 1 y := by
  funext k
  unfold D2 va_up
  repeat' split
  all_goals first | rfl | omega

set_option maxHeartbeats 4000000 in
set_option maxRecDepth 100000 in
theorem k_X4_place (l : Launch) {G : GT} {c : Nat → va_E} {cl : Int32} {kn : Nat} {kk ks kv : Nat → Int32} (k1 : c 12 = .inr (7, [.ref (gad G 13), .ref (gad G 14), .ref (gad G 15), .int (nI kn)])) (k2 : c 13 = .inl (gI G, 121, .inl kk)) (k3 : c 14 = .inl (gI G, 121, .inl ks)) (k4 : c 15 = .inl (gI G, 121, .inl kv)) (hkn : kn ≤ 121) {K V : Nat → Int32} {lk n : Nat} {f : Nat → Int32} (r1 : c 11 = .inr (3, [.ref (gad G 1), .ref (gad G 12), .int (nI (lk)), .int (cl)])) (h1 : c 1 = .inr (0, [.ref (gad G 2), .int (nI n)])) (h2 : c 2 = .inl (gI G, 132, .inl f)) (hT : ∀ x, x < kn → kk x = K x ∧ kv x = V x) (hE : ∀ x, x < kn → K x ≠ 0 → x + 1 < kn) (hlk : lk < kn) (hn : n ≤ 12) : Met l yX4_place (wv yX4_place cX4_place 1 (some .int)) ({ frames := 1, cells := 0, slots := 0, locals := 21 } : Room) (va_Pc [.ref (gad G 11)] (fun U => Hw G c U U.heap)) (vp_Si (fun r => r = ks lk)) 0 0 (fun _ => False) := by
  refine en (by decide +kernel) (by first | exact Nat.le_of_ble_eq_true rfl | decide) ?_
  intro p e s m below meth cd ls hx hb hr hml hown hts hlocks hnm hw hl
  have hl : lv_has ls 1 [(0, .ref (gad G 11))] := hl
  refine lv_aload_n hx hb dX4_place_0 rfl (lv_at hl 0 rfl) ?_
  refine w_get (C := RX4) (T := TX4) (N := 4) 1 hx hb hts inX4 hown hw (by decide) r1 rfl (by decide) (hts _ tw_110) rfl dX4_place_1 ?_
  refine lv_aload_n hx hb dX4_place_4 rfl (lv_at hl 0 rfl) ?_
  refine w_get (C := RX4) (T := TX4) (N := 4) 2 hx hb hts inX4 hown hw (by decide) r1 rfl (by decide) (hts _ tw_111) rfl dX4_place_5 ?_
  refine cSe (rV (As := [_]) ⟨hx, hb, hml, hown, hts⟩ hw (k_X8_startAt l k1 k2 k3 k4 hkn (by omega)) (cv_X8_startAt hts tw_778 rfl rfl ⟨Nat.le_of_ble_eq_true rfl, Nat.le_of_ble_eq_true rfl⟩) (by decide) k1 rfl rfl hl.1 rfl (by first | exact Nat.le_of_ble_eq_true rfl | decide) dX4_place_8 ⟨Nat.zero_le _, Nat.zero_le _⟩) ?_
  exact re_S hx hb hr hlocks (rfl) dX4_place_11 (by rw [kat, if_pos hlk])
set_option maxHeartbeats 4000000 in
set_option maxRecDepth 100000 in
theorem k_X4_readText (l : Launch) {G : GT} {c : Nat → va_E} {lw cl : Int32} {kn : Nat} {kk ks kv : Nat → Int32} (k1 : c 12 = .inr (7, [.ref (gad G 13), .ref (gad G 14), .ref (gad G 15), .int (nI kn)])) (k2 : c 13 = .inl (gI G, 121, .inl kk)) (k3 : c 14 = .inl (gI G, 121, .inl ks)) (k4 : c 15 = .inl (gI G, 121, .inl kv)) (hkn : kn ≤ 121) {tn : Nat} {tf : Nat → Int32} (t1 : c 9 = .inr (6, [.ref (gad G 10), .int (nI tn)])) (t2 : c 10 = .inl (gI G, 120, .inl tf)) (htn : tn ≤ 120) {n : Nat} {f : Nat → Int32} (r1 : c 11 = .inr (3, [.ref (gad G 1), .ref (gad G 12), .int lw, .int cl])) (h1 : c 1 = .inr (0, [.ref (gad G 2), .int (nI n)])) (h2 : c 2 = .inl (gI G, 132, .inl f)) (hn : n ≤ 12) : Met l yX4_readText (wv yX4_readText cX4_readText 3 (some .boolean)) ({ frames := 7, cells := 0, slots := 0, locals := 156 } : Room) (va_Pc [.ref (gad G 11), .ref (gad G 9)] (fun U => Hw G c U U.heap)) (va_Qi (fun r (c9 : Nat → va_E) => ∃ (b9 : Bool) (k9 : Nat) (f9 : Nat → Int32) (n9 : Nat) (cl9 : Int32) (kn9 : Nat) (kk9 ks9 kv9 : Nat → Int32), TKS tf tn kk9 ks9 kv9 kn9 ∧ rText (KK tf tn) (VV tf tn) 13 n 0 f = (b9, k9, f9, n9) ∧ k9 < kn9 ∧ n9 ≤ 12 ∧ r = bi b9 ∧ c9 = D2 2 11 (va_up (va_up (va_up (va_up (va_up c 13 (.inl (gI G, 121, .inl kk9))) 14 (.inl (gI G, 121, .inl ks9))) 15 (.inl (gI G, 121, .inl kv9))) 12 (.inr (7, [.ref (gad G 13), .ref (gad G 14), .ref (gad G 15), .int (nI kn9)]))) 1 (.inr (0, [.ref (gad G 2), .int (nI (n9))]))) (.inl (gI G, 132, .inl f9)) (.inr (3, [.ref (gad G 1), .ref (gad G 12), .int (nI (k9)), .int (cl9)]))) (fun c9 t => Hw G c9 t t.heap) (gA G)) 0 0 (gA G) := by
  refine en (by decide +kernel) (by first | exact Nat.le_of_ble_eq_true rfl | decide) ?_
  intro p e s m below meth cd ls hx hb hr hml hown hts hlocks hnm hw hl
  have hl : lv_has ls 3 [(0, .ref (gad G 11)), (1, .ref (gad G 9))] := hl
  have hX : Sw G s s.heap := hw.2.2.2.2.2
  have hS : va_S (gA G) s.heap s.heap [] := va_S.rf
  obtain ⟨H, hH⟩ : ∃ wz9, wz9 = s.heap := ⟨_, rfl⟩
  obtain ⟨locs, hlocs⟩ : ∃ wz9 : List Loc, wz9 = [] := ⟨_, rfl⟩
  have hw : Hw G c s H := by rw [hH]; exact hw
  have hS : va_S (gA G) s.heap H locs := by rw [hH, hlocs]; exact hS
  suffices hgo : W p l e ({ frames := 7, cells := 0, slots := 0, locals := 156 } : Room) s m (([.ref (gad G 11), .ref (gad G 9)] : List Value).toArray) below meth cd H locs 0 0 (MQ below (va_Qi (fun r (c9 : Nat → va_E) => ∃ (b9 : Bool) (k9 : Nat) (f9 : Nat → Int32) (n9 : Nat) (cl9 : Int32) (kn9 : Nat) (kk9 ks9 kv9 : Nat → Int32), TKS tf tn kk9 ks9 kv9 kn9 ∧ rText (KK tf tn) (VV tf tn) 13 n 0 f = (b9, k9, f9, n9) ∧ k9 < kn9 ∧ n9 ≤ 12 ∧ r = bi b9 ∧ c9 = D2 2 11 (va_up (va_up (va_up (va_up (va_up c 13 (.inl (gI G, 121, .inl kk9))) 14 (.inl (gI G, 121, .inl ks9))) 15 (.inl (gI G, 121, .inl kv9))) 12 (.inr (7, [.ref (gad G 13), .ref (gad G 14), .ref (gad G 15), .int (nI kn9)]))) 1 (.inr (0, [.ref (gad G 2), .int (nI (n9))]))) (.inl (gI G, 132, .inl f9)) (.inr (3, [.ref (gad G 1), .ref (gad G 12), .int (nI (k9)), .int (cl9)]))) (fun c9 t => Hw G c9 t t.heap) (gA G)) ([.ref (gad G 11), .ref (gad G 9)] : List Value).toArray s 0 0 (gA G)) (F0 m 0 ls []) by rw [hH, hlocs] at hgo; exact hgo
  refine lv_aload_n hx hb dX4_readText_0 rfl (lv_at hl 0 rfl) ?_
  refine w_get (C := RX4) (T := TX4) (N := 4) 1 hx hb hts inX4 hown hw (by decide) r1 rfl (by decide) (hts _ tw_110) rfl dX4_readText_1 ?_
  refine lv_aload_n hx hb dX4_readText_4 rfl (lv_at hl 1 rfl) ?_
  refine cQv (rV (As := [_]) ⟨hx, hb, hml, hown, hts⟩ hw (k_X8_cut l k1 k2 k3 k4 hkn t1 t2 htn) (cv_X8_cut hts tw_605 rfl rfl ⟨Nat.le_of_ble_eq_true rfl, Nat.le_of_ble_eq_true rfl⟩) (by decide) k1 rfl rfl hl.1 rfl (by first | exact Nat.le_of_ble_eq_true rfl | decide) dX4_readText_5 ⟨Nat.zero_le _, Nat.zero_le _⟩) hw hS (fun w1 H locs hp5 hw hS => ?_)
  obtain ⟨kn2, kk2, ks2, kv2, hTK, hp5⟩ := hp5
  have k1_1 : w1 12 = .inr (7, [.ref (gad G 13), .ref (gad G 14), .ref (gad G 15), .int (nI kn2)]) := by rw [hp5]; exact vu_s
  have k2_1 : w1 13 = .inl (gI G, 121, .inl kk2) := by rw [hp5]; exact vu_e (by decide) (vu_e (by decide) (vu_e (by decide) vu_s))
  have k3_1 : w1 14 = .inl (gI G, 121, .inl ks2) := by rw [hp5]; exact vu_e (by decide) (vu_e (by decide) vu_s)
  have k4_1 : w1 15 = .inl (gI G, 121, .inl kv2) := by rw [hp5]; exact vu_e (by decide) vu_s
  have r1_1 : w1 11 = .inr (3, [.ref (gad G 1), .ref (gad G 12), .int lw, .int cl]) := by rw [hp5]; exact vu_e (by decide) (vu_e (by decide) (vu_e (by decide) (vu_e (by decide) r1)))
  have h1_1 : w1 1 = .inr (0, [.ref (gad G 2), .int (nI n)]) := by rw [hp5]; exact vu_e (by decide) (vu_e (by decide) (vu_e (by decide) (vu_e (by decide) h1)))
  have h2_1 : w1 2 = .inl (gI G, 132, .inl f) := by rw [hp5]; exact vu_e (by decide) (vu_e (by decide) (vu_e (by decide) (vu_e (by decide) h2)))
  have t1_1 : w1 9 = .inr (6, [.ref (gad G 10), .int (nI tn)]) := by rw [hp5]; exact vu_e (by decide) (vu_e (by decide) (vu_e (by decide) (vu_e (by decide) t1)))
  have t2_1 : w1 10 = .inl (gI G, 120, .inl tf) := by rw [hp5]; exact vu_e (by decide) (vu_e (by decide) (vu_e (by decide) (vu_e (by decide) t2)))
  have hkn2 : kn2 ≤ 121 := hTK.2.1
  have hkn1 : 1 ≤ kn2 := hTK.1
  have hT := hTK.at
  have hE := hTK.on
  refine lv_aload_n hx hb dX4_readText_8 rfl (lv_at hl 0 rfl) ?_
  refine lv_iconst (v := 0) hx hb dX4_readText_9 (by decide) ?_
  refine w_put (C := RX4) (T := TX4) (N := 4) (v := .int (nI (0))) 2 tyX4 hx hb hts inX4 tyX4_ok nmX4 hown hw hX hS (by decide) r1_1 rfl (by decide) (hts _ tw_111) rfl rfl (rfl) (rfl) (Nat.le_of_ble_eq_true rfl) dX4_readText_10 (fun H locs hw hS => ?_)
  obtain ⟨w3, ew3⟩ : ∃ wz9 : Nat → va_E, wz9 = va_up w1 11 (.inr (3, [.ref (gad G 1), .ref (gad G 12), .int (nI (0)), .int cl])) := ⟨_, rfl⟩
  have hw : Hw G w3 s H := by rw [ew3]; exact hw
  have k1_3 : w3 12 = .inr (7, [.ref (gad G 13), .ref (gad G 14), .ref (gad G 15), .int (nI kn2)]) := by rw [ew3]; exact vu_e (by decide) k1_1
  have k2_3 : w3 13 = .inl (gI G, 121, .inl kk2) := by rw [ew3]; exact vu_e (by decide) k2_1
  have k3_3 : w3 14 = .inl (gI G, 121, .inl ks2) := by rw [ew3]; exact vu_e (by decide) k3_1
  have k4_3 : w3 15 = .inl (gI G, 121, .inl kv2) := by rw [ew3]; exact vu_e (by decide) k4_1
  have r1_3 : w3 11 = .inr (3, [.ref (gad G 1), .ref (gad G 12), .int (nI (0)), .int cl]) := by rw [ew3]; exact vu_s
  have h1_3 : w3 1 = .inr (0, [.ref (gad G 2), .int (nI n)]) := by rw [ew3]; exact vu_e (by decide) h1_1
  have h2_3 : w3 2 = .inl (gI G, 132, .inl f) := by rw [ew3]; exact vu_e (by decide) h2_1
  have t1_3 : w3 9 = .inr (6, [.ref (gad G 10), .int (nI tn)]) := by rw [ew3]; exact vu_e (by decide) t1_1
  have t2_3 : w3 10 = .inl (gI G, 120, .inl tf) := by rw [ew3]; exact vu_e (by decide) t2_1
  refine lv_iconst (v := 0) hx hb dX4_readText_13 (by decide) ?_
  refine lv_istore_n (lv' := [(2, _), (0, _), (1, _)]) hx hb dX4_readText_14 rfl hl (by decide) rfl (fun ls hl => ?_)
  have L15 : ∀ (N : Nat) (i n7 k7 : Nat) (f7 : Nat → Int32) (cl7 : Int32), (i + N = 13) → (rText (KK tf tn) (VV tf tn) 13 n 0 f = rText (KK tf tn) (VV tf tn) N n7 k7 f7) → (k7 < kn2) → (n7 ≤ 12) → ∀ (c0 : Nat → va_E) (H : Heap) (locs : List Loc), (c0 = D2 2 11 (va_up w1 1 (.inr (0, [.ref (gad G 2), .int (nI (n7))]))) (.inl (gI G, 132, .inl f7)) (.inr (3, [.ref (gad G 1), .ref (gad G 12), .int (nI (k7)), .int (cl7)]))) → Hw G c0 s H → va_S (gA G) s.heap H locs → ∀ ls : Array Slot, lv_has ls 3 [(2, .int (nI i)), (1, .ref (gad G 9)), (0, .ref (gad G 11))] → W p l e ({ frames := 7, cells := 0, slots := 0, locals := 156 } : Room) s m (([.ref (gad G 11), .ref (gad G 9)] : List Value).toArray) below meth cd H locs 0 0 (MQ below (va_Qi (fun r (c9 : Nat → va_E) => ∃ (b9 : Bool) (k9 : Nat) (f9 : Nat → Int32) (n9 : Nat) (cl9 : Int32) (kn9 : Nat) (kk9 ks9 kv9 : Nat → Int32), TKS tf tn kk9 ks9 kv9 kn9 ∧ rText (KK tf tn) (VV tf tn) 13 n 0 f = (b9, k9, f9, n9) ∧ k9 < kn9 ∧ n9 ≤ 12 ∧ r = bi b9 ∧ c9 = D2 2 11 (va_up (va_up (va_up (va_up (va_up c 13 (.inl (gI G, 121, .inl kk9))) 14 (.inl (gI G, 121, .inl ks9))) 15 (.inl (gI G, 121, .inl kv9))) 12 (.inr (7, [.ref (gad G 13), .ref (gad G 14), .ref (gad G 15), .int (nI kn9)]))) 1 (.inr (0, [.ref (gad G 2), .int (nI (n9))]))) (.inl (gI G, 132, .inl f9)) (.inr (3, [.ref (gad G 1), .ref (gad G 12), .int (nI (k9)), .int (cl9)]))) (fun c9 t => Hw G c9 t t.heap) (gA G)) ([.ref (gad G 11), .ref (gad G 9)] : List Value).toArray s 0 0 (gA G)) (F0 m 15 ls []) := by
    intro N
    induction N with
    | zero =>
      intro i n7 k7  f7  cl7  hN hR hk7 hn7 c0 H locs e0 hw hS ls hl
      have hin : i = 13 := by omega
      have r1 : c0 11 = .inr (3, [.ref (gad G 1), .ref (gad G 12), .int (nI (k7)), .int (cl7)]) := by rw [e0]; exact D2_j
      have h2 : c0 2 = .inl (gI G, 132, .inl f7) := by rw [e0]; exact D2_i (by decide)
      have h1 : c0 1 = .inr (0, [.ref (gad G 2), .int (nI (n7))]) := by rw [e0]; exact D2_o (by decide) (by decide) vu_s
      have k1 : c0 12 = .inr (7, [.ref (gad G 13), .ref (gad G 14), .ref (gad G 15), .int (nI kn2)]) := by rw [e0]; exact D2_o (by decide) (by decide) (vu_e (by decide) k1_1)
      have k2 : c0 13 = .inl (gI G, 121, .inl kk2) := by rw [e0]; exact D2_o (by decide) (by decide) (vu_e (by decide) k2_1)
      have k3 : c0 14 = .inl (gI G, 121, .inl ks2) := by rw [e0]; exact D2_o (by decide) (by decide) (vu_e (by decide) k3_1)
      have k4 : c0 15 = .inl (gI G, 121, .inl kv2) := by rw [e0]; exact D2_o (by decide) (by decide) (vu_e (by decide) k4_1)
      refine lv_iload_n hx hb dX4_readText_15 rfl (lv_at hl 0 rfl) ?_
      refine lv_bipush (v := 12) hx hb dX4_readText_16 (by decide) ?_
      refine lv_icmp_gt (tgt := 79) hx hb dX4_readText_18 (by decide) (fun c18 => ?_) (fun q => absurd (by rw [hin]; decide) q)
      refine lv_iconst (v := 0) hx hb dX4_readText_79 (by decide) ?_
      exact re_Q hx hb hr hlocks (rfl) hw hS dX4_readText_80 (⟨false, k7, f7, n7, cl7, kn2, kk2, ks2, kv2, hTK, by rw [hR]; rfl, hk7, hn7, rfl, by rw [e0, hp5]⟩)
    | succ N ih =>
      intro i n7 k7  f7  cl7  hN hR hk7 hn7 c0 H locs e0 hw hS ls hl
      have r1 : c0 11 = .inr (3, [.ref (gad G 1), .ref (gad G 12), .int (nI (k7)), .int (cl7)]) := by rw [e0]; exact D2_j
      have h2 : c0 2 = .inl (gI G, 132, .inl f7) := by rw [e0]; exact D2_i (by decide)
      have h1 : c0 1 = .inr (0, [.ref (gad G 2), .int (nI (n7))]) := by rw [e0]; exact D2_o (by decide) (by decide) vu_s
      have k1 : c0 12 = .inr (7, [.ref (gad G 13), .ref (gad G 14), .ref (gad G 15), .int (nI kn2)]) := by rw [e0]; exact D2_o (by decide) (by decide) (vu_e (by decide) k1_1)
      have k2 : c0 13 = .inl (gI G, 121, .inl kk2) := by rw [e0]; exact D2_o (by decide) (by decide) (vu_e (by decide) k2_1)
      have k3 : c0 14 = .inl (gI G, 121, .inl ks2) := by rw [e0]; exact D2_o (by decide) (by decide) (vu_e (by decide) k3_1)
      have k4 : c0 15 = .inl (gI G, 121, .inl kv2) := by rw [e0]; exact D2_o (by decide) (by decide) (vu_e (by decide) k4_1)
      refine lv_iload_n hx hb dX4_readText_15 rfl (lv_at hl 0 rfl) ?_
      refine lv_bipush (v := 12) hx hb dX4_readText_16 (by decide) ?_
      refine lv_icmp_gt (tgt := 79) hx hb dX4_readText_18 (by decide) (fun q => absurd q (fun q => absurd ((nI_ltI (a := 12) (by omega) (by omega)).mp q) (by omega))) (fun c18 => ?_)
      refine lv_aload_n hx hb dX4_readText_21 rfl (lv_at hl 2 rfl) ?_
      refine cQi (rV (As := []) ⟨hx, hb, hml, hown, hts⟩ hw (k_X4_readLaw l k1 k2 k3 k4 hkn2 r1 h1 h2 hT hE hk7 hn7) (cv_X4_readLaw hts tw_719 rfl rfl ⟨Nat.le_of_ble_eq_true rfl, Nat.le_of_ble_eq_true rfl⟩) (by decide) r1 rfl rfl hl.1 rfl (by first | exact Nat.le_of_ble_eq_true rfl | decide) dX4_readText_22 ⟨Nat.zero_le _, Nat.zero_le _⟩) hw hS (fun r22 w4 H locs hp22 hw hS => ?_)
      obtain ⟨b22, kz22, f22, n22, cl22, hX22, hl22, hn22, rfl, hp22⟩ := hp22
      have k1_4 : w4 12 = .inr (7, [.ref (gad G 13), .ref (gad G 14), .ref (gad G 15), .int (nI kn2)]) := by rw [hp22]; exact D2_o (by decide) (by decide) (vu_e (by decide) k1)
      have k2_4 : w4 13 = .inl (gI G, 121, .inl kk2) := by rw [hp22]; exact D2_o (by decide) (by decide) (vu_e (by decide) k2)
      have k3_4 : w4 14 = .inl (gI G, 121, .inl ks2) := by rw [hp22]; exact D2_o (by decide) (by decide) (vu_e (by decide) k3)
      have k4_4 : w4 15 = .inl (gI G, 121, .inl kv2) := by rw [hp22]; exact D2_o (by decide) (by decide) (vu_e (by decide) k4)
      have r1_4 : w4 11 = .inr (3, [.ref (gad G 1), .ref (gad G 12), .int (nI (kz22)), .int (cl22)]) := by rw [hp22]; exact D2_j
      have h1_4 : w4 1 = .inr (0, [.ref (gad G 2), .int (nI (n22))]) := by rw [hp22]; exact D2_o (by decide) (by decide) vu_s
      have h2_4 : w4 2 = .inl (gI G, 132, .inl f22) := by rw [hp22]; exact D2_i (by decide)
      refine zb_ne (tgt := 30) hx hb dX4_readText_25 (by decide) (fun c25 => ?_) (fun c25 => ?_)
      · refine lv_aload_n hx hb dX4_readText_30 rfl (lv_at hl 2 rfl) ?_
        refine w_get (C := RX4) (T := TX4) (N := 4) 1 hx hb hts inX4 hown hw (by decide) r1_4 rfl (by decide) (hts _ tw_110) rfl dX4_readText_31 ?_
        refine lv_aload_n hx hb dX4_readText_34 rfl (lv_at hl 2 rfl) ?_
        refine w_get (C := RX4) (T := TX4) (N := 4) 2 hx hb hts inX4 hown hw (by decide) r1_4 rfl (by decide) (hts _ tw_111) rfl dX4_readText_35 ?_
        refine cSe (rV (As := [_]) ⟨hx, hb, hml, hown, hts⟩ hw (k_X8_kindAt l k1_4 k2_4 k3_4 k4_4 hkn2 (by omega)) (cv_X8_kindAt hts tw_727 rfl rfl ⟨Nat.le_of_ble_eq_true rfl, Nat.le_of_ble_eq_true rfl⟩) (by decide) k1_4 rfl rfl hl.1 rfl (by first | exact Nat.le_of_ble_eq_true rfl | decide) dX4_readText_38 ⟨Nat.zero_le _, Nat.zero_le _⟩) ?_
        refine tp (y := KK tf tn kz22) (by rw [kat, if_pos hl22]; exact (hT _ hl22).1) ?_
        refine lv_if_ne (tgt := 46) hx hb dX4_readText_41 (by decide) (fun c41 => ?_) (fun c41 => ?_)
        · refine lv_aload_n hx hb dX4_readText_46 rfl (lv_at hl 2 rfl) ?_
          refine w_get (C := RX4) (T := TX4) (N := 4) 1 hx hb hts inX4 hown hw (by decide) r1_4 rfl (by decide) (hts _ tw_110) rfl dX4_readText_47 ?_
          refine lv_aload_n hx hb dX4_readText_50 rfl (lv_at hl 2 rfl) ?_
          refine w_get (C := RX4) (T := TX4) (N := 4) 2 hx hb hts inX4 hown hw (by decide) r1_4 rfl (by decide) (hts _ tw_111) rfl dX4_readText_51 ?_
          refine cSe (rV (As := [_]) ⟨hx, hb, hml, hown, hts⟩ hw (k_X8_kindAt l k1_4 k2_4 k3_4 k4_4 hkn2 (by omega)) (cv_X8_kindAt hts tw_727 rfl rfl ⟨Nat.le_of_ble_eq_true rfl, Nat.le_of_ble_eq_true rfl⟩) (by decide) k1_4 rfl rfl hl.1 rfl (by first | exact Nat.le_of_ble_eq_true rfl | decide) dX4_readText_54 ⟨Nat.zero_le _, Nat.zero_le _⟩) ?_
          refine tp (y := KK tf tn kz22) (by rw [kat, if_pos hl22]; exact (hT _ hl22).1) ?_
          refine lv_iconst (v := 3) hx hb dX4_readText_57 (by decide) ?_
          refine lv_icmp_eq (tgt := 63) hx hb dX4_readText_58 (by decide) (fun c58 => ?_) (fun c58 => ?_)
          · refine lv_aload_n hx hb dX4_readText_63 rfl (lv_at hl 2 rfl) ?_
            refine lv_dup hx hb dX4_readText_64 rfl ?_
            refine w_get (C := RX4) (T := TX4) (N := 4) 2 hx hb hts inX4 hown hw (by decide) r1_4 rfl (by decide) (hts _ tw_111) rfl dX4_readText_65 ?_
            refine lv_iconst (v := 1) hx hb dX4_readText_68 (by decide) ?_
            refine lv_iadd hx hb dX4_readText_69 ?_
            refine tp (y := nI (kz22 + 1)) (nI_1 _) ?_
            refine w_put (C := RX4) (T := TX4) (N := 4) (v := .int (nI (kz22 + 1))) 2 tyX4 hx hb hts inX4 tyX4_ok nmX4 hown hw hX hS (by decide) r1_4 rfl (by decide) (hts _ tw_111) rfl rfl (rfl) (rfl) (Nat.le_of_ble_eq_true rfl) dX4_readText_70 (fun H locs hw hS => ?_)
            obtain ⟨w6, ew6⟩ : ∃ wz9 : Nat → va_E, wz9 = va_up w4 11 (.inr (3, [.ref (gad G 1), .ref (gad G 12), .int (nI (kz22 + 1)), .int (cl22)])) := ⟨_, rfl⟩
            have hw : Hw G w6 s H := by rw [ew6]; exact hw
            have k1_6 : w6 12 = .inr (7, [.ref (gad G 13), .ref (gad G 14), .ref (gad G 15), .int (nI kn2)]) := by rw [ew6]; exact vu_e (by decide) k1_4
            have k2_6 : w6 13 = .inl (gI G, 121, .inl kk2) := by rw [ew6]; exact vu_e (by decide) k2_4
            have k3_6 : w6 14 = .inl (gI G, 121, .inl ks2) := by rw [ew6]; exact vu_e (by decide) k3_4
            have k4_6 : w6 15 = .inl (gI G, 121, .inl kv2) := by rw [ew6]; exact vu_e (by decide) k4_4
            have r1_6 : w6 11 = .inr (3, [.ref (gad G 1), .ref (gad G 12), .int (nI (kz22 + 1)), .int (cl22)]) := by rw [ew6]; exact vu_s
            have h1_6 : w6 1 = .inr (0, [.ref (gad G 2), .int (nI (n22))]) := by rw [ew6]; exact vu_e (by decide) h1_4
            have h2_6 : w6 2 = .inl (gI G, 132, .inl f22) := by rw [ew6]; exact vu_e (by decide) h2_4
            refine lv_iinc (v := nI (i + 1)) (lv' := [(2, _), (1, _), (0, _)]) hx hb dX4_readText_73 hl (k := 0) rfl (inc1 i) (by decide) rfl (fun ls hl => ?_)
            refine lv_goto (tgt := 15) hx hb dX4_readText_76 (by decide) ?_
            exact ih (i + 1) n22 (kz22 + 1) f22 cl22 (by omega) (by rw [hR, rText_s hX22 c25 c58]) (hE _ hl22 (by rw [c58]; decide)) hn22 _ H locs (by rw [ew6, hp22, e0, r2p, r6p]) hw hS ls (lv_sub hl [0, 1, 2] rfl)
          · refine lv_iconst (v := 0) hx hb dX4_readText_61 (by decide) ?_
            exact re_Q hx hb hr hlocks (rfl) hw hS dX4_readText_62 (⟨false, kz22, f22, n22, cl22, kn2, kk2, ks2, kv2, hTK, by rw [hR, rText_x hX22 c25 c41 c58], hl22, hn22, rfl, by rw [hp22, e0, r6p, hp5]⟩)
        · refine lv_iconst (v := 1) hx hb dX4_readText_44 (by decide) ?_
          exact re_Q hx hb hr hlocks (rfl) hw hS dX4_readText_45 (⟨true, kz22, f22, n22, cl22, kn2, kk2, ks2, kv2, hTK, by rw [hR, rText_e hX22 c25 c41], hl22, hn22, rfl, by rw [hp22, e0, r6p, hp5]⟩)
      · refine lv_iconst (v := 0) hx hb dX4_readText_28 (by decide) ?_
        exact re_Q hx hb hr hlocks (rfl) hw hS dX4_readText_29 (⟨false, kz22, f22, n22, cl22, kn2, kk2, ks2, kv2, hTK, by rw [hR, rText_f hX22 c25], hl22, hn22, rfl, by rw [hp22, e0, r6p, hp5]⟩)
  exact L15 13 0 n 0 f cl (by omega) rfl (by omega) hn _ H locs (by rw [ew3, up_id h1_1, D2, up_id h2_1]) hw hS ls (lv_sub hl [0, 2, 1] rfl)
set_option maxHeartbeats 4000000 in
set_option maxRecDepth 100000 in
theorem k_X10_text (l : Launch) {G : GT} {c : Nat → va_E} {im : Bool} {iz : Int32} (o1 : c 0 = .inr (8, [.ref (gad G 1), .ref (gad G 3), .ref (gad G 5), .ref (gad G 8), .ref (gad G 9), .ref (gad G 11), .ref (gad G 16), .ref (gad G 18), .int (bi im), .ref (gad G 27), .ref (gad G 29), .int iz])) {lw cl : Int32} {kn : Nat} {kk ks kv : Nat → Int32} (k1 : c 12 = .inr (7, [.ref (gad G 13), .ref (gad G 14), .ref (gad G 15), .int (nI kn)])) (k2 : c 13 = .inl (gI G, 121, .inl kk)) (k3 : c 14 = .inl (gI G, 121, .inl ks)) (k4 : c 15 = .inl (gI G, 121, .inl kv)) (hkn : kn ≤ 121) {tn : Nat} {tf : Nat → Int32} (t1 : c 9 = .inr (6, [.ref (gad G 10), .int (nI tn)])) (t2 : c 10 = .inl (gI G, 120, .inl tf)) (htn : tn ≤ 120) {n : Nat} {f : Nat → Int32} (r1 : c 11 = .inr (3, [.ref (gad G 1), .ref (gad G 12), .int lw, .int cl])) (h1 : c 1 = .inr (0, [.ref (gad G 2), .int (nI n)])) (h2 : c 2 = .inl (gI G, 132, .inl f)) (hn : n ≤ 12) : Met l yX10_text (wv yX10_text cX10_text 3 (some .int)) ({ frames := 8, cells := 0, slots := 0, locals := 178 } : Room) (va_Pc [.ref (gad G 0)] (fun U => Hw G c U U.heap)) (va_Qi (fun r (c9 : Nat → va_E) => ∃ (b9 : Bool) (k9 : Nat) (f9 : Nat → Int32) (n9 : Nat) (cl9 : Int32) (kn9 : Nat) (kk9 ks9 kv9 : Nat → Int32), kn9 ≤ 121 ∧ rText (KK tf tn) (VV tf tn) 13 n 0 f = (b9, k9, f9, n9) ∧ n9 ≤ 12 ∧ r = (if b9 = true then nI n9 - nI n else -100 - nI (tkF tf tn k9)) ∧ c9 = va_up (va_up (D2 2 11 (va_up (va_up (va_up (va_up c 13 (.inl (gI G, 121, .inl kk9))) 14 (.inl (gI G, 121, .inl ks9))) 15 (.inl (gI G, 121, .inl kv9))) 12 (.inr (7, [.ref (gad G 13), .ref (gad G 14), .ref (gad G 15), .int (nI kn9)]))) (.inl (gI G, 132, .inl f9)) (.inr (3, [.ref (gad G 1), .ref (gad G 12), .int (nI (k9)), .int (cl9)]))) 9 (.inr (6, [.ref (gad G 10), .int (nI 0)]))) 1 (.inr (0, [.ref (gad G 2), .int (nI (if b9 = true then n9 else n))]))) (fun c9 t => Hw G c9 t t.heap) (gA G)) 0 0 (gA G) := by
  refine en (by decide +kernel) (by first | exact Nat.le_of_ble_eq_true rfl | decide) ?_
  intro p e s m below meth cd ls hx hb hr hml hown hts hlocks hnm hw hl
  have hl : lv_has ls 3 [(0, .ref (gad G 0))] := hl
  have hX : Sw G s s.heap := hw.2.2.2.2.2
  have hS : va_S (gA G) s.heap s.heap [] := va_S.rf
  obtain ⟨H, hH⟩ : ∃ wz9, wz9 = s.heap := ⟨_, rfl⟩
  obtain ⟨locs, hlocs⟩ : ∃ wz9 : List Loc, wz9 = [] := ⟨_, rfl⟩
  have hw : Hw G c s H := by rw [hH]; exact hw
  have hS : va_S (gA G) s.heap H locs := by rw [hH, hlocs]; exact hS
  suffices hgo : W p l e ({ frames := 8, cells := 0, slots := 0, locals := 178 } : Room) s m (([.ref (gad G 0)] : List Value).toArray) below meth cd H locs 0 0 (MQ below (va_Qi (fun r (c9 : Nat → va_E) => ∃ (b9 : Bool) (k9 : Nat) (f9 : Nat → Int32) (n9 : Nat) (cl9 : Int32) (kn9 : Nat) (kk9 ks9 kv9 : Nat → Int32), kn9 ≤ 121 ∧ rText (KK tf tn) (VV tf tn) 13 n 0 f = (b9, k9, f9, n9) ∧ n9 ≤ 12 ∧ r = (if b9 = true then nI n9 - nI n else -100 - nI (tkF tf tn k9)) ∧ c9 = va_up (va_up (D2 2 11 (va_up (va_up (va_up (va_up c 13 (.inl (gI G, 121, .inl kk9))) 14 (.inl (gI G, 121, .inl ks9))) 15 (.inl (gI G, 121, .inl kv9))) 12 (.inr (7, [.ref (gad G 13), .ref (gad G 14), .ref (gad G 15), .int (nI kn9)]))) (.inl (gI G, 132, .inl f9)) (.inr (3, [.ref (gad G 1), .ref (gad G 12), .int (nI (k9)), .int (cl9)]))) 9 (.inr (6, [.ref (gad G 10), .int (nI 0)]))) 1 (.inr (0, [.ref (gad G 2), .int (nI (if b9 = true then n9 else n))]))) (fun c9 t => Hw G c9 t t.heap) (gA G)) ([.ref (gad G 0)] : List Value).toArray s 0 0 (gA G)) (F0 m 0 ls []) by rw [hH, hlocs] at hgo; exact hgo
  refine lv_aload_n hx hb dX10_text_0 rfl (lv_at hl 0 rfl) ?_
  refine w_get (C := RX10) (T := TX10) (N := 12) 0 hx hb hts inX10 hown hw (by decide) o1 rfl (by decide) (hts _ tw_152) rfl dX10_text_1 ?_
  refine cSe (rV (As := []) ⟨hx, hb, hml, hown, hts⟩ hw (k_X1_size l (by decide) (by decide) h1 h2 hn) (cv_X1_size hts tw_252 rfl rfl ⟨Nat.le_of_ble_eq_true rfl, Nat.le_of_ble_eq_true rfl⟩) (by decide) h1 rfl rfl hl.1 rfl (by first | exact Nat.le_of_ble_eq_true rfl | decide) dX10_text_4 ⟨Nat.zero_le _, Nat.zero_le _⟩) ?_
  refine lv_istore_n (lv' := [(1, _), (0, _)]) hx hb dX10_text_7 rfl hl (by decide) rfl (fun ls hl => ?_)
  refine lv_aload_n hx hb dX10_text_8 rfl (lv_at hl 1 rfl) ?_
  refine w_get (C := RX10) (T := TX10) (N := 12) 5 hx hb hts inX10 hown hw (by decide) o1 rfl (by decide) (hts _ tw_157) rfl dX10_text_9 ?_
  refine lv_aload_n hx hb dX10_text_12 rfl (lv_at hl 1 rfl) ?_
  refine w_get (C := RX10) (T := TX10) (N := 12) 4 hx hb hts inX10 hown hw (by decide) o1 rfl (by decide) (hts _ tw_156) rfl dX10_text_13 ?_
  refine cQi (rV (As := [_]) ⟨hx, hb, hml, hown, hts⟩ hw (k_X4_readText l k1 k2 k3 k4 hkn t1 t2 htn r1 h1 h2 hn) (cv_X4_readText hts tw_601 rfl rfl ⟨Nat.le_of_ble_eq_true rfl, Nat.le_of_ble_eq_true rfl⟩) (by decide) r1 rfl rfl hl.1 rfl (by first | exact Nat.le_of_ble_eq_true rfl | decide) dX10_text_16 ⟨Nat.zero_le _, Nat.zero_le _⟩) hw hS (fun r16 w1 H locs hp16 hw hS => ?_)
  obtain ⟨b16, kz16, f16, n16, cl16, kn2, kk2, ks2, kv2, hTK, hX16, hl16, hn16, rfl, hp16⟩ := hp16
  have k1_1 : w1 12 = .inr (7, [.ref (gad G 13), .ref (gad G 14), .ref (gad G 15), .int (nI kn2)]) := by rw [hp16]; exact D2_o (by decide) (by decide) (vu_e (by decide) vu_s)
  have k2_1 : w1 13 = .inl (gI G, 121, .inl kk2) := by rw [hp16]; exact D2_o (by decide) (by decide) (vu_e (by decide) (vu_e (by decide) (vu_e (by decide) (vu_e (by decide) vu_s))))
  have k3_1 : w1 14 = .inl (gI G, 121, .inl ks2) := by rw [hp16]; exact D2_o (by decide) (by decide) (vu_e (by decide) (vu_e (by decide) (vu_e (by decide) vu_s)))
  have k4_1 : w1 15 = .inl (gI G, 121, .inl kv2) := by rw [hp16]; exact D2_o (by decide) (by decide) (vu_e (by decide) (vu_e (by decide) vu_s))
  have r1_1 : w1 11 = .inr (3, [.ref (gad G 1), .ref (gad G 12), .int (nI (kz16)), .int (cl16)]) := by rw [hp16]; exact D2_j
  have h1_1 : w1 1 = .inr (0, [.ref (gad G 2), .int (nI (n16))]) := by rw [hp16]; exact D2_o (by decide) (by decide) vu_s
  have h2_1 : w1 2 = .inl (gI G, 132, .inl f16) := by rw [hp16]; exact D2_i (by decide)
  have t1_1 : w1 9 = .inr (6, [.ref (gad G 10), .int (nI tn)]) := by rw [hp16]; exact D2_o (by decide) (by decide) (vu_e (by decide) (vu_e (by decide) (vu_e (by decide) (vu_e (by decide) (vu_e (by decide) t1)))))
  have t2_1 : w1 10 = .inl (gI G, 120, .inl tf) := by rw [hp16]; exact D2_o (by decide) (by decide) (vu_e (by decide) (vu_e (by decide) (vu_e (by decide) (vu_e (by decide) (vu_e (by decide) t2)))))
  have o1_1 : w1 0 = .inr (8, [.ref (gad G 1), .ref (gad G 3), .ref (gad G 5), .ref (gad G 8), .ref (gad G 9), .ref (gad G 11), .ref (gad G 16), .ref (gad G 18), .int (bi im), .ref (gad G 27), .ref (gad G 29), .int iz]) := by rw [hp16]; exact D2_o (by decide) (by decide) (vu_e (by decide) (vu_e (by decide) (vu_e (by decide) (vu_e (by decide) (vu_e (by decide) o1)))))
  have hkn2 : kn2 ≤ 121 := hTK.2.1
  refine lv_istore_n (lv' := [(2, _), (1, _), (0, _)]) hx hb dX10_text_19 rfl hl (by decide) rfl (fun ls hl => ?_)
  refine lv_aload_n hx hb dX10_text_20 rfl (lv_at hl 2 rfl) ?_
  refine w_get (C := RX10) (T := TX10) (N := 12) 4 hx hb hts inX10 hown hw (by decide) o1_1 rfl (by decide) (hts _ tw_156) rfl dX10_text_21 ?_
  refine cQv (rV (As := []) ⟨hx, hb, hml, hown, hts⟩ hw (k_X7_empty l t1_1 t2_1 htn) (cv_X7_empty hts tw_593 rfl rfl ⟨Nat.le_of_ble_eq_true rfl, Nat.le_of_ble_eq_true rfl⟩) (by decide) t1_1 rfl rfl hl.1 rfl (by first | exact Nat.le_of_ble_eq_true rfl | decide) dX10_text_24 ⟨Nat.zero_le _, Nat.zero_le _⟩) hw hS (fun w2 H locs hp24 hw hS => ?_)
  have k1_2 : w2 12 = .inr (7, [.ref (gad G 13), .ref (gad G 14), .ref (gad G 15), .int (nI kn2)]) := by rw [hp24]; exact vu_e (by decide) k1_1
  have k2_2 : w2 13 = .inl (gI G, 121, .inl kk2) := by rw [hp24]; exact vu_e (by decide) k2_1
  have k3_2 : w2 14 = .inl (gI G, 121, .inl ks2) := by rw [hp24]; exact vu_e (by decide) k3_1
  have k4_2 : w2 15 = .inl (gI G, 121, .inl kv2) := by rw [hp24]; exact vu_e (by decide) k4_1
  have r1_2 : w2 11 = .inr (3, [.ref (gad G 1), .ref (gad G 12), .int (nI (kz16)), .int (cl16)]) := by rw [hp24]; exact vu_e (by decide) r1_1
  have h1_2 : w2 1 = .inr (0, [.ref (gad G 2), .int (nI (n16))]) := by rw [hp24]; exact vu_e (by decide) h1_1
  have h2_2 : w2 2 = .inl (gI G, 132, .inl f16) := by rw [hp24]; exact vu_e (by decide) h2_1
  have t1_2 : w2 9 = .inr (6, [.ref (gad G 10), .int (nI 0)]) := by rw [hp24]; exact vu_s
  have t2_2 : w2 10 = .inl (gI G, 120, .inl tf) := by rw [hp24]; exact vu_e (by decide) t2_1
  have o1_2 : w2 0 = .inr (8, [.ref (gad G 1), .ref (gad G 3), .ref (gad G 5), .ref (gad G 8), .ref (gad G 9), .ref (gad G 11), .ref (gad G 16), .ref (gad G 18), .int (bi im), .ref (gad G 27), .ref (gad G 29), .int iz]) := by rw [hp24]; exact vu_e (by decide) o1_1
  refine lv_iload_n hx hb dX10_text_27 rfl (lv_at hl 0 rfl) ?_
  refine zb_eq (tgt := 41) hx hb dX10_text_28 (by decide) (fun c28 => ?_) (fun c28 => ?_)
  · refine lv_aload_n hx hb dX10_text_41 rfl (lv_at hl 2 rfl) ?_
    refine w_get (C := RX10) (T := TX10) (N := 12) 0 hx hb hts inX10 hown hw (by decide) o1_2 rfl (by decide) (hts _ tw_152) rfl dX10_text_42 ?_
    refine lv_iload_n hx hb dX10_text_45 rfl (lv_at hl 1 rfl) ?_
    refine cQv (rV (As := [_]) ⟨hx, hb, hml, hown, hts⟩ hw (k_X1_cutTo l (by decide) (by decide) h1_2 h2_2 hn16 (x := n)) (cv_X1_cutTo hts tw_256 rfl rfl ⟨Nat.le_of_ble_eq_true rfl, Nat.le_of_ble_eq_true rfl⟩) (by decide) h1_2 rfl rfl hl.1 rfl (by first | exact Nat.le_of_ble_eq_true rfl | decide) dX10_text_46 ⟨Nat.zero_le _, Nat.zero_le _⟩) hw hS (fun w3 H locs hp46 hw hS => ?_)
    have k1_3 : w3 12 = .inr (7, [.ref (gad G 13), .ref (gad G 14), .ref (gad G 15), .int (nI kn2)]) := by rw [hp46]; exact vu_e (by decide) k1_2
    have k2_3 : w3 13 = .inl (gI G, 121, .inl kk2) := by rw [hp46]; exact vu_e (by decide) k2_2
    have k3_3 : w3 14 = .inl (gI G, 121, .inl ks2) := by rw [hp46]; exact vu_e (by decide) k3_2
    have k4_3 : w3 15 = .inl (gI G, 121, .inl kv2) := by rw [hp46]; exact vu_e (by decide) k4_2
    have r1_3 : w3 11 = .inr (3, [.ref (gad G 1), .ref (gad G 12), .int (nI (kz16)), .int (cl16)]) := by rw [hp46]; exact vu_e (by decide) r1_2
    have h1_3 : w3 1 = .inr (0, [.ref (gad G 2), .int (nI n)]) := by rw [hp46]; exact vu_s
    have h2_3 : w3 2 = .inl (gI G, 132, .inl f16) := by rw [hp46]; exact vu_e (by decide) h2_2
    have t1_3 : w3 9 = .inr (6, [.ref (gad G 10), .int (nI 0)]) := by rw [hp46]; exact vu_e (by decide) t1_2
    have t2_3 : w3 10 = .inl (gI G, 120, .inl tf) := by rw [hp46]; exact vu_e (by decide) t2_2
    have o1_3 : w3 0 = .inr (8, [.ref (gad G 1), .ref (gad G 3), .ref (gad G 5), .ref (gad G 8), .ref (gad G 9), .ref (gad G 11), .ref (gad G 16), .ref (gad G 18), .int (bi im), .ref (gad G 27), .ref (gad G 29), .int iz]) := by rw [hp46]; exact vu_e (by decide) o1_2
    refine lv_bipush (v := (-100)) hx hb dX10_text_49 (by decide) ?_
    refine lv_aload_n hx hb dX10_text_51 rfl (lv_at hl 2 rfl) ?_
    refine w_get (C := RX10) (T := TX10) (N := 12) 5 hx hb hts inX10 hown hw (by decide) o1_3 rfl (by decide) (hts _ tw_157) rfl dX10_text_52 ?_
    refine cSe (rV (As := []) ⟨hx, hb, hml, hown, hts⟩ hw (k_X4_place l k1_3 k2_3 k3_3 k4_3 hkn2 r1_3 h1_3 h2_3 hTK.at hTK.on hl16 hn) (cv_X4_place hts tw_774 rfl rfl ⟨Nat.le_of_ble_eq_true rfl, Nat.le_of_ble_eq_true rfl⟩) (by decide) r1_3 rfl rfl hl.1 rfl (by first | exact Nat.le_of_ble_eq_true rfl | decide) dX10_text_55 ⟨Nat.zero_le _, Nat.zero_le _⟩) ?_
    refine tp (y := nI (tkF tf tn kz16)) (hTK.2.2.1 kz16 hl16).2.1 ?_
    refine lv_isub hx hb dX10_text_58 ?_
    exact re_Q hx hb hr hlocks (rfl) hw hS dX10_text_59 (⟨false, kz16, f16, n16, cl16, kn2, kk2, ks2, kv2, hkn2, by rw [hX16, c28], hn16, rfl, by rw [hp46, hp24, hp16, txw_f]; rfl⟩)
  · refine lv_aload_n hx hb dX10_text_31 rfl (lv_at hl 2 rfl) ?_
    refine w_get (C := RX10) (T := TX10) (N := 12) 0 hx hb hts inX10 hown hw (by decide) o1_2 rfl (by decide) (hts _ tw_152) rfl dX10_text_32 ?_
    refine cSe (rV (As := []) ⟨hx, hb, hml, hown, hts⟩ hw (k_X1_size l (by decide) (by decide) h1_2 h2_2 hn16) (cv_X1_size hts tw_252 rfl rfl ⟨Nat.le_of_ble_eq_true rfl, Nat.le_of_ble_eq_true rfl⟩) (by decide) h1_2 rfl rfl hl.1 rfl (by first | exact Nat.le_of_ble_eq_true rfl | decide) dX10_text_35 ⟨Nat.zero_le _, Nat.zero_le _⟩) ?_
    refine lv_iload_n hx hb dX10_text_38 rfl (lv_at hl 1 rfl) ?_
    refine lv_isub hx hb dX10_text_39 ?_
    exact re_Q hx hb hr hlocks (rfl) hw hS dX10_text_40 (⟨true, kz16, f16, n16, cl16, kn2, kk2, ks2, kv2, hkn2, by rw [hX16, c28], hn16, rfl, by rw [hp24, hp16, txw_t]; rfl⟩)
