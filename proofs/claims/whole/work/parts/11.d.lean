theorem fst_k {P : Nat → Bool} {i : Nat} (h : ¬ fstU P i = -1) : fstU P i = fstU P (i + 1) := by rw [fstU]; simp [h]
theorem fst_f {P : Nat → Bool} {i : Nat} (h : P i = false) : fstU P i = fstU P (i + 1) := by rw [fstU]; simp [h]
theorem fst_t {P : Nat → Bool} {i : Nat} (h : fstU P i = -1) (hP : P i = true) : nI i = fstU P (i + 1) := by rw [fstU]; simp [h, hP]
theorem JPt {g : Nat → Int32} {i : Nat} (hi : 1 ≤ i) (h : ¬ g (i - 1) - g i = 0) : JP g i = true := by
  unfold JP
  simp only [hi, decide_true, Bool.true_and, decide_eq_true_eq]
  exact fun q => h (sub0.mpr q.symm)
theorem JPf {g : Nat → Int32} {i : Nat} (h : g (i - 1) - g i = 0) : JP g i = false := by
  unfold JP
  simp [(sub0.mp h).symm]
theorem JPt2 {g : Nat → Int32} {i : Nat} (hi : 1 ≤ i) (h : ¬ g i - g (i - 1) = 0) : JP g i = true := JPt hi (fun q => h (sub0.mpr (sub0.mp q).symm))
theorem JPf2 {g : Nat → Int32} {i : Nat} (h : g i - g (i - 1) = 0) : JP g i = false := JPf (sub0.mpr (sub0.mp h).symm)
theorem CPt {g : Nat → Int32} {i : Nat} (hi : 1 ≤ i) (h : ¬ g (i - 1) - g i ≤ 0) : CPg g i = true := by
  unfold CPg
  simp only [hi, decide_true, Bool.true_and, decide_eq_true_eq]
  exact chN_pos.mpr (Int32.not_le.mp h)
theorem CPf {g : Nat → Int32} {i : Nat} (h : g (i - 1) - g i ≤ 0) : CPg g i = false := by
  unfold CPg
  have : ¬ 0 < chN g i := fun q => absurd (chN_pos.mp q) (Int32.not_lt.mpr h)
  simp [this]
theorem hclT {g : Nat → Int32} {m i : Nat} (hi : 1 ≤ i) (h : ¬ g (i - 1) - g i ≤ chh g m (hcl g m i)) : hcl g m (i + 1) = nI i := by
  rw [hcl]
  have := (ch_gt (g := g) (v := i) (chh_nn g m (hcl g m i))).mp (Int32.not_le.mp h)
  simp [hi, this]
theorem hclF {g : Nat → Int32} {m i : Nat} (h : g (i - 1) - g i ≤ chh g m (hcl g m i)) : hcl g m (i + 1) = hcl g m i := by
  rw [hcl]
  have : ¬ chh g m (hcl g m i) < chN g i := fun q => absurd ((ch_gt (chh_nn g m (hcl g m i))).mpr q) (Int32.not_lt.mpr h)
  simp [this]
theorem hclV {g : Nat → Int32} {m i : Nat} (hi : 1 ≤ i) (him : i < m) (hm : m < 2 ^ 31) (h : ¬ g (i - 1) - g i ≤ chh g m (hcl g m i)) : g (i - 1) - g i = chh g m (hcl g m (i + 1)) := by
  rw [hclT hi h, chh_nI hi him hm]
  exact ch_val (chh_nn g m (hcl g m i)) (Int32.not_le.mp h)
theorem BPt {g : Nat → Int32} {i : Nat} {s : Int32} (hs : (i = 1 ∧ s = 0) ∨ (2 ≤ i ∧ s = g (i - 1) - g (i - 2))) (h1 : ¬ nI i ≤ 1) (h : ¬ g i - g (i - 1) = s) (hi : i < 2 ^ 31) : BP g i = true := by
  rcases hs with ⟨rfl, -⟩ | ⟨h2, rfl⟩
  · exact absurd (by decide) h1
  · unfold BP; simp [h2, h]
theorem BPf {g : Nat → Int32} {i : Nat} {s : Int32} (hs : (i = 1 ∧ s = 0) ∨ (2 ≤ i ∧ s = g (i - 1) - g (i - 2))) (h : nI i ≤ 1 ∨ g i - g (i - 1) = s) (hi : i < 2 ^ 31) : BP g i = false := by
  rcases hs with ⟨rfl, -⟩ | ⟨h2, rfl⟩
  · rfl
  · rcases h with h | h
    · exact absurd ((nI_leI (b := 1) hi (by decide)).mp h) (by omega)
    · unfold BP; simp [h]
theorem lvl_s (g : Nat → Int32) {i : Nat} (hi : 1 ≤ i) : lvl g (i + 1) = (if (lvl g i).1 < (if JP g i then 1 else (lvl g i).2 + 1) then (if JP g i then 1 else (lvl g i).2 + 1) else (lvl g i).1, if JP g i then 1 else (lvl g i).2 + 1) := by
  rw [lvl, if_neg (by omega)]
theorem lvlR {g : Nat → Int32} {i : Nat} (hi : 1 ≤ i) : (lvl g (i + 1)).1 = if (lvl g i).1 < (lvl g (i + 1)).2 then (lvl g (i + 1)).2 else (lvl g i).1 := by rw [lvl_s g hi]
theorem wn4_4 {w : Int32} (h : wn w 0 4 = true) (h0 : ¬ w = 0) (h1 : ¬ w = 1) (h2 : ¬ w = 2) (h3 : ¬ w = 3) : w = 4 := by
  obtain ⟨q, -, hq, rfl⟩ := wn_nI (a := 0) (b := 4) (by decide) (by decide) h
  rcases (show q = 0 ∨ q = 1 ∨ q = 2 ∨ q = 3 ∨ q = 4 by omega) with rfl | rfl | rfl | rfl | rfl
  · exact absurd rfl h0
  · exact absurd rfl h1
  · exact absurd rfl h2
  · exact absurd rfl h3
  · rfl
theorem wn4_f {w : Int32} (h : wn w 0 4 = false) : w ≠ 0 ∧ w ≠ 1 ∧ w ≠ 2 ∧ w ≠ 3 ∧ w ≠ 4 := by
  refine ⟨?_, ?_, ?_, ?_, ?_⟩ <;> (rintro rfl; revert h; decide)
theorem wn3_3 {w : Int32} (h : wn w 0 3 = true) (h0 : ¬ w = 0) (h1 : ¬ w = 1) (h2 : ¬ w = 2) : w = 3 := by
  rcases isSh_t h with e | e | e | e
  · exact absurd e h0
  · exact absurd e h1
  · exact absurd e h2
  · exact e
theorem wn3_f {w : Int32} (h : wn w 0 3 = false) : w ≠ 0 ∧ w ≠ 1 ∧ w ≠ 2 ∧ w ≠ 3 := by
  refine ⟨?_, ?_, ?_, ?_⟩ <;> (rintro rfl; revert h; decide)
theorem wn2_2 {w : Int32} (h : wn w 0 2 = true) (h0 : ¬ w = 0) (h1 : ¬ w = 1) : w = 2 := by
  obtain ⟨q, -, hq, rfl⟩ := wn_nI (a := 0) (b := 2) (by decide) (by decide) h
  rcases (show q = 0 ∨ q = 1 ∨ q = 2 by omega) with rfl | rfl | rfl
  · exact absurd rfl h0
  · exact absurd rfl h1
  · rfl

set_option maxHeartbeats 4000000 in
set_option maxRecDepth 100000 in
theorem k_X11_jumps (l : Launch) {G : GT} {c : Nat → va_E} {n n1 rn tn n2 qn : Nat} {z hd sd fr tto tk wo iz : Int32} {im : Bool} (o1 : c 32 = .inr (9, [.ref (gad G 33), .ref (gad G 34), .ref (gad G 35), .int (nI n), .int (nI n1), .int z, .int hd, .int sd, .ref (gad G 36), .ref (gad G 37), .int (nI rn), .ref (gad G 38), .int (nI tn), .int fr, .int tto, .int tk, .int wo, .ref (gad G 39), .ref (gad G 40), .ref (gad G 41), .ref (gad G 42), .ref (gad G 43), .ref (gad G 44), .int (nI n2), .int (nI qn), .int iz, .int (bi im)])) {f : Nat → Int32} (a1 : c 33 = .inl (gI G, 132, .inl f)) (hn : n ≤ 12) {a d t w : Int32} (hI : cI f n) : Met l yX11_jumps (wv yX11_jumps cX11_jumps 12 (some .int)) ({ frames := 6, cells := 0, slots := 0, locals := 142 } : Room) (va_Pc [.ref (gad G 32), .int a, .int d, .int t, .int w] (fun U => Hw G c U U.heap)) (va_Qi (fun r (c9 : Nat → va_E) => r = spJumps f n a d t w ∧ ∃ h8 s8 : Int32, c9 = va_up c 32 (.inr (9, [.ref (gad G 33), .ref (gad G 34), .ref (gad G 35), .int (nI n), .int (nI n1), .int z, .int (h8), .int (s8), .ref (gad G 36), .ref (gad G 37), .int (nI rn), .ref (gad G 38), .int (nI tn), .int fr, .int tto, .int tk, .int wo, .ref (gad G 39), .ref (gad G 40), .ref (gad G 41), .ref (gad G 42), .ref (gad G 43), .ref (gad G 44), .int (nI n2), .int (nI qn), .int iz, .int (bi im)]))) (fun c9 t => Hw G c9 t t.heap) (gA G)) 0 0 (gA G) := by
  refine en (by decide +kernel) (by first | exact Nat.le_of_ble_eq_true rfl | decide) ?_
  intro p e s m below meth cd ls hx hb hr hml hown hts hlocks hnm hw hl
  have hl : lv_has ls 12 [(0, .ref (gad G 32)), (1, .int a), (2, .int d), (3, .int t), (4, .int w)] := hl
  have hX : Sw G s s.heap := hw.2.2.2.2.2
  have hS : va_S (gA G) s.heap s.heap [] := va_S.rf
  obtain ⟨H, hH⟩ : ∃ wz9, wz9 = s.heap := ⟨_, rfl⟩
  obtain ⟨locs, hlocs⟩ : ∃ wz9 : List Loc, wz9 = [] := ⟨_, rfl⟩
  have hw : Hw G c s H := by rw [hH]; exact hw
  have hS : va_S (gA G) s.heap H locs := by rw [hH, hlocs]; exact hS
  suffices hgo : W p l e ({ frames := 6, cells := 0, slots := 0, locals := 142 } : Room) s m (([.ref (gad G 32), .int a, .int d, .int t, .int w] : List Value).toArray) below meth cd H locs 0 0 (MQ below (va_Qi (fun r (c9 : Nat → va_E) => r = spJumps f n a d t w ∧ ∃ h8 s8 : Int32, c9 = va_up c 32 (.inr (9, [.ref (gad G 33), .ref (gad G 34), .ref (gad G 35), .int (nI n), .int (nI n1), .int z, .int (h8), .int (s8), .ref (gad G 36), .ref (gad G 37), .int (nI rn), .ref (gad G 38), .int (nI tn), .int fr, .int tto, .int tk, .int wo, .ref (gad G 39), .ref (gad G 40), .ref (gad G 41), .ref (gad G 42), .ref (gad G 43), .ref (gad G 44), .int (nI n2), .int (nI qn), .int iz, .int (bi im)]))) (fun c9 t => Hw G c9 t t.heap) (gA G)) ([.ref (gad G 32), .int a, .int d, .int t, .int w] : List Value).toArray s 0 0 (gA G)) (F0 m 0 ls []) by rw [hH, hlocs] at hgo; exact hgo
  refine lv_iload_n hx hb dX11_jumps_0 rfl (lv_at hl 1 rfl) ?_
  refine lv_iload_n hx hb dX11_jumps_1 rfl (lv_at hl 2 rfl) ?_
  refine lv_iload_n hx hb dX11_jumps_2 rfl (lv_at hl 3 rfl) ?_
  refine cSe (rST (As := [_, _, _]) ⟨hx, hb, hml, hown, hts⟩ (k_X11_isAlong l ) (cv_X11_isAlong hts tw_1098 rfl rfl ⟨Nat.le_of_ble_eq_true rfl, Nat.le_of_ble_eq_true rfl⟩) rfl hl.1 rfl (by first | exact Nat.le_of_ble_eq_true rfl | decide) dX11_jumps_3 ⟨Nat.zero_le _, Nat.zero_le _⟩) ?_
  refine zb_eq (tgt := 19) hx hb dX11_jumps_6 (by decide) (fun c6 => ?_) (fun c6 => ?_)
  · refine lv_bipush (v := (-2)) hx hb dX11_jumps_19 (by decide) ?_
    exact re_Q hx hb hr hlocks (rfl) hw hS dX11_jumps_21 (⟨by rw [spJumps, c6]; rfl, ⟨hd, sd, (up_id o1).symm⟩⟩)
  · refine lv_iload hx hb dX11_jumps_9 (lv_at hl 4 rfl) ?_
    refine lv_iconst (v := 0) hx hb dX11_jumps_11 (by decide) ?_
    refine lv_iconst (v := 4) hx hb dX11_jumps_12 (by decide) ?_
    refine cSe (rST (As := [_, _, _]) ⟨hx, hb, hml, hown, hts⟩ (k_X11_in l ) (cv_X11_in hts tw_987 rfl rfl ⟨Nat.le_of_ble_eq_true rfl, Nat.le_of_ble_eq_true rfl⟩) rfl hl.1 rfl (by first | exact Nat.le_of_ble_eq_true rfl | decide) dX11_jumps_13 ⟨Nat.zero_le _, Nat.zero_le _⟩) ?_
    refine zb_ne (tgt := 22) hx hb dX11_jumps_16 (by decide) (fun c16 => ?_) (fun c16 => ?_)
    · have hal := c6
      simp only [Bool.and_eq_true] at hal
      obtain ⟨⟨ha1, ha2⟩, ha3⟩ := hal
      obtain ⟨p0, hp0, rfl⟩ := isP_t ha1
      have ht := isSh_t ha3
      have hsz := sz_le ht
      have hszm := szN_m ht
      refine lv_iconst (v := 0) hx hb dX11_jumps_22 (by decide) ?_
      refine lv_istore (lv' := [(5, _), (0, _), (1, _), (2, _), (3, _), (4, _)]) hx hb dX11_jumps_23 hl (by decide) rfl (fun ls hl => ?_)
      refine lv_iconst (v := (-1)) hx hb dX11_jumps_25 (by decide) ?_
      refine lv_istore (lv' := [(6, _), (5, _), (0, _), (1, _), (2, _), (3, _), (4, _)]) hx hb dX11_jumps_26 hl (by decide) rfl (fun ls hl => ?_)
      refine lv_iconst (v := 0) hx hb dX11_jumps_28 (by decide) ?_
      refine lv_istore (lv' := [(7, _), (6, _), (5, _), (0, _), (1, _), (2, _), (3, _), (4, _)]) hx hb dX11_jumps_29 hl (by decide) rfl (fun ls hl => ?_)
      refine lv_iconst (v := (-1)) hx hb dX11_jumps_31 (by decide) ?_
      refine lv_istore (lv' := [(8, _), (7, _), (6, _), (5, _), (0, _), (1, _), (2, _), (3, _), (4, _)]) hx hb dX11_jumps_32 hl (by decide) rfl (fun ls hl => ?_)
      refine lv_iconst (v := 0) hx hb dX11_jumps_34 (by decide) ?_
      refine lv_istore (lv' := [(9, _), (8, _), (7, _), (6, _), (5, _), (0, _), (1, _), (2, _), (3, _), (4, _)]) hx hb dX11_jumps_35 hl (by decide) rfl (fun ls hl => ?_)
      refine lv_iconst (v := 1) hx hb dX11_jumps_37 (by decide) ?_
      refine lv_istore (lv' := [(10, _), (9, _), (8, _), (7, _), (6, _), (5, _), (0, _), (1, _), (2, _), (3, _), (4, _)]) hx hb dX11_jumps_38 hl (by decide) rfl (fun ls hl => ?_)
      have L40 : ∀ (N : Nat) (i : Nat) (h7 s7 : Int32), (i + N = szN t) → (1 ≤ i) → ∀ (c0 : Nat → va_E) (H : Heap) (locs : List Loc), (c0 = va_up c 32 (.inr (9, [.ref (gad G 33), .ref (gad G 34), .ref (gad G 35), .int (nI n), .int (nI n1), .int z, .int (h7), .int (s7), .ref (gad G 36), .ref (gad G 37), .int (nI rn), .ref (gad G 38), .int (nI tn), .int fr, .int tto, .int tk, .int wo, .ref (gad G 39), .ref (gad G 40), .ref (gad G 41), .ref (gad G 42), .ref (gad G 43), .ref (gad G 44), .int (nI n2), .int (nI qn), .int iz, .int (bi im)]))) → Hw G c0 s H → va_S (gA G) s.heap H locs → ∀ ls : Array Slot, lv_has ls 12 [(10, .int (nI i)), (9, .int (chh (og f n p0 d t) (szN t) (hcl (og f n p0 d t) (szN t) i))), (8, .int (hcl (og f n p0 d t) (szN t) i)), (7, .int (nI (cntU (CPg (og f n p0 d t)) i))), (6, .int (fstU (JP (og f n p0 d t)) i)), (5, .int (nI (cntU (JP (og f n p0 d t)) i))), (4, .int w), (3, .int t), (2, .int d), (1, .int (nI p0)), (0, .ref (gad G 32))] → W p l e ({ frames := 6, cells := 0, slots := 0, locals := 142 } : Room) s m (([.ref (gad G 32), .int (nI p0), .int d, .int t, .int w] : List Value).toArray) below meth cd H locs 0 0 (MQ below (va_Qi (fun r (c9 : Nat → va_E) => r = spJumps f n (nI p0) d t w ∧ ∃ h8 s8 : Int32, c9 = va_up c 32 (.inr (9, [.ref (gad G 33), .ref (gad G 34), .ref (gad G 35), .int (nI n), .int (nI n1), .int z, .int (h8), .int (s8), .ref (gad G 36), .ref (gad G 37), .int (nI rn), .ref (gad G 38), .int (nI tn), .int fr, .int tto, .int tk, .int wo, .ref (gad G 39), .ref (gad G 40), .ref (gad G 41), .ref (gad G 42), .ref (gad G 43), .ref (gad G 44), .int (nI n2), .int (nI qn), .int iz, .int (bi im)]))) (fun c9 t => Hw G c9 t t.heap) (gA G)) ([.ref (gad G 32), .int (nI p0), .int d, .int t, .int w] : List Value).toArray s 0 0 (gA G)) (F0 m 40 ls []) := by
        intro N
        induction N with
        | zero =>
          intro i  h7 s7  hN hi c0 H locs e0 hw hS ls hl
          have hin : szN t = i := by omega
          refine lv_iload hx hb dX11_jumps_40 (lv_at hl 0 rfl) ?_
          refine lv_iload_n hx hb dX11_jumps_42 rfl (lv_at hl 7 rfl) ?_
          refine cSe (rST (As := [_]) ⟨hx, hb, hml, hown, hts⟩ (k_X11_sizeOf l ) (cv_X11_sizeOf hts tw_1040 rfl rfl ⟨Nat.le_of_ble_eq_true rfl, Nat.le_of_ble_eq_true rfl⟩) rfl hl.1 rfl (by first | exact Nat.le_of_ble_eq_true rfl | decide) dX11_jumps_43 ⟨Nat.zero_le _, Nat.zero_le _⟩) ?_
          refine tp (y := nI (szN t)) hszm ?_
          refine lv_icmp_ge (tgt := 166) hx hb dX11_jumps_46 (by decide) (fun c46 => ?_) (fun q => absurd (nI_le (by omega) (by omega)) q)
          refine lv_iload hx hb dX11_jumps_166 (lv_at hl 6 rfl) ?_
          refine lv_if_ne (tgt := 176) hx hb dX11_jumps_168 (by decide) (fun c168 => ?_) (fun c168 => ?_)
          · refine lv_iload hx hb dX11_jumps_176 (lv_at hl 6 rfl) ?_
            refine lv_iconst (v := 1) hx hb dX11_jumps_178 (by decide) ?_
            refine lv_icmp_ne (tgt := 187) hx hb dX11_jumps_179 (by decide) (fun c179 => ?_) (fun c179 => ?_)
            · refine lv_iload hx hb dX11_jumps_187 (lv_at hl 6 rfl) ?_
              refine lv_iconst (v := 2) hx hb dX11_jumps_189 (by decide) ?_
              refine lv_icmp_ne (tgt := 198) hx hb dX11_jumps_190 (by decide) (fun c190 => ?_) (fun c190 => ?_)
              · refine lv_iload hx hb dX11_jumps_198 (lv_at hl 6 rfl) ?_
                refine lv_iconst (v := 3) hx hb dX11_jumps_200 (by decide) ?_
                refine lv_icmp_ne (tgt := 209) hx hb dX11_jumps_201 (by decide) (fun c201 => ?_) (fun c201 => ?_)
                · refine lv_iload hx hb dX11_jumps_209 (lv_at hl 1 rfl) ?_
                  exact re_Q hx hb hr hlocks (rfl) hw hS dX11_jumps_211 (⟨by rw [spJumps, show (isP (nI p0) && isDy d && isSh t) = true from c6, pN_nI hp0, hin]; have hw4 := wn4_4 c16 c168 c179 c190 c201; simp only [if_true]; rw [if_neg c168, if_neg c179, if_neg c190, if_neg c201, if_pos hw4], _, _, e0⟩)
                · refine lv_iload hx hb dX11_jumps_204 (lv_at hl 2 rfl) ?_
                  refine lv_goto (tgt := 211) hx hb dX11_jumps_206 (by decide) ?_
                  exact re_Q hx hb hr hlocks (rfl) hw hS dX11_jumps_211 (⟨by rw [spJumps, show (isP (nI p0) && isDy d && isSh t) = true from c6, pN_nI hp0, hin]; simp only [if_true]; rw [if_neg c168, if_neg c179, if_neg c190, if_pos c201], _, _, e0⟩)
              · refine lv_iload hx hb dX11_jumps_193 (lv_at hl 3 rfl) ?_
                refine lv_goto (tgt := 211) hx hb dX11_jumps_195 (by decide) ?_
                exact re_Q hx hb hr hlocks (rfl) hw hS dX11_jumps_211 (⟨by rw [spJumps, show (isP (nI p0) && isDy d && isSh t) = true from c6, pN_nI hp0, hin]; simp only [if_true]; rw [if_neg c168, if_neg c179, if_pos c190], _, _, e0⟩)
            · refine lv_iload hx hb dX11_jumps_182 (lv_at hl 4 rfl) ?_
              refine lv_goto (tgt := 211) hx hb dX11_jumps_184 (by decide) ?_
              exact re_Q hx hb hr hlocks (rfl) hw hS dX11_jumps_211 (⟨by rw [spJumps, show (isP (nI p0) && isDy d && isSh t) = true from c6, pN_nI hp0, hin]; simp only [if_true]; rw [if_neg c168, if_pos c179], _, _, e0⟩)
          · refine lv_iload hx hb dX11_jumps_171 (lv_at hl 5 rfl) ?_
            refine lv_goto (tgt := 211) hx hb dX11_jumps_173 (by decide) ?_
            exact re_Q hx hb hr hlocks (rfl) hw hS dX11_jumps_211 (⟨by rw [spJumps, show (isP (nI p0) && isDy d && isSh t) = true from c6, pN_nI hp0, hin]; simp only [if_true]; rw [if_pos c168], _, _, e0⟩)
        | succ N ih =>
          intro i  h7 s7  hN hi c0 H locs e0 hw hS ls hl
          have o1 : c0 32 = .inr (9, [.ref (gad G 33), .ref (gad G 34), .ref (gad G 35), .int (nI n), .int (nI n1), .int z, .int (h7), .int (s7), .ref (gad G 36), .ref (gad G 37), .int (nI rn), .ref (gad G 38), .int (nI tn), .int fr, .int tto, .int tk, .int wo, .ref (gad G 39), .ref (gad G 40), .ref (gad G 41), .ref (gad G 42), .ref (gad G 43), .ref (gad G 44), .int (nI n2), .int (nI qn), .int iz, .int (bi im)]) := by rw [e0]; exact vu_s
          have a1 : c0 33 = .inl (gI G, 132, .inl f) := by rw [e0]; exact vu_e (by decide) a1
          refine lv_iload hx hb dX11_jumps_40 (lv_at hl 0 rfl) ?_
          refine lv_iload_n hx hb dX11_jumps_42 rfl (lv_at hl 7 rfl) ?_
          refine cSe (rST (As := [_]) ⟨hx, hb, hml, hown, hts⟩ (k_X11_sizeOf l ) (cv_X11_sizeOf hts tw_1040 rfl rfl ⟨Nat.le_of_ble_eq_true rfl, Nat.le_of_ble_eq_true rfl⟩) rfl hl.1 rfl (by first | exact Nat.le_of_ble_eq_true rfl | decide) dX11_jumps_43 ⟨Nat.zero_le _, Nat.zero_le _⟩) ?_
          refine tp (y := nI (szN t)) hszm ?_
          refine lv_icmp_ge (tgt := 166) hx hb dX11_jumps_46 (by decide) (fun q => absurd q (nI_ge (by omega) (by omega))) (fun c46 => ?_)
          refine lv_aload_n hx hb dX11_jumps_49 rfl (lv_at hl 10 rfl) ?_
          refine lv_iload_n hx hb dX11_jumps_50 rfl (lv_at hl 9 rfl) ?_
          refine lv_iload_n hx hb dX11_jumps_51 rfl (lv_at hl 7 rfl) ?_
          refine lv_iload hx hb dX11_jumps_52 (lv_at hl 0 rfl) ?_
          refine lv_iconst (v := 1) hx hb dX11_jumps_54 (by decide) ?_
          refine lv_isub hx hb dX11_jumps_55 ?_
          refine tp (y := nI (i - 1)) (ixp hi) ?_
          refine cSe (rST (As := [_, _, _]) ⟨hx, hb, hml, hown, hts⟩ (k_X11_with l hp0 ht) (cv_X11_with hts tw_1101 rfl rfl ⟨Nat.le_of_ble_eq_true rfl, Nat.le_of_ble_eq_true rfl⟩) rfl hl.1 rfl (by first | exact Nat.le_of_ble_eq_true rfl | decide) dX11_jumps_56 ⟨Nat.zero_le _, Nat.zero_le _⟩) ?_
          refine lv_iload_n hx hb dX11_jumps_59 rfl (lv_at hl 8 rfl) ?_
          refine cQi (rV (As := [_, _]) ⟨hx, hb, hml, hown, hts⟩ hw (k_X11_isNow l o1 a1 hn (wth_lt hp0 ht (by omega)) hI) (cv_X11_isNow hts tw_1053 rfl rfl ⟨Nat.le_of_ble_eq_true rfl, Nat.le_of_ble_eq_true rfl⟩) (by decide) o1 rfl rfl hl.1 rfl (by first | exact Nat.le_of_ble_eq_true rfl | decide) dX11_jumps_60 ⟨Nat.zero_le _, Nat.zero_le _⟩) hw hS (fun r60 w1 H locs hp60 hw hS => ?_)
          obtain ⟨er60, ec60⟩ := hp60
          subst er60
          have o1_1 : w1 32 = .inr (9, [.ref (gad G 33), .ref (gad G 34), .ref (gad G 35), .int (nI n), .int (nI n1), .int z, .int (hdM f n (wthN p0 t (i - 1)) d), .int (stM f n (wthN p0 t (i - 1)) d), .ref (gad G 36), .ref (gad G 37), .int (nI rn), .ref (gad G 38), .int (nI tn), .int fr, .int tto, .int tk, .int wo, .ref (gad G 39), .ref (gad G 40), .ref (gad G 41), .ref (gad G 42), .ref (gad G 43), .ref (gad G 44), .int (nI n2), .int (nI qn), .int iz, .int (bi im)]) := by rw [ec60]; exact vu_s
          have a1_1 : w1 33 = .inl (gI G, 132, .inl f) := by rw [ec60]; exact (vu_e (by decide) a1)
          refine lv_aload_n hx hb dX11_jumps_63 rfl (lv_at hl 10 rfl) ?_
          refine lv_iload_n hx hb dX11_jumps_64 rfl (lv_at hl 9 rfl) ?_
          refine lv_iload_n hx hb dX11_jumps_65 rfl (lv_at hl 7 rfl) ?_
          refine lv_iload hx hb dX11_jumps_66 (lv_at hl 0 rfl) ?_
          refine cSe (rST (As := [_, _, _]) ⟨hx, hb, hml, hown, hts⟩ (k_X11_with l hp0 ht) (cv_X11_with hts tw_1101 rfl rfl ⟨Nat.le_of_ble_eq_true rfl, Nat.le_of_ble_eq_true rfl⟩) rfl hl.1 rfl (by first | exact Nat.le_of_ble_eq_true rfl | decide) dX11_jumps_68 ⟨Nat.zero_le _, Nat.zero_le _⟩) ?_
          refine lv_iload_n hx hb dX11_jumps_71 rfl (lv_at hl 8 rfl) ?_
          refine cQi (rV (As := [_, _]) ⟨hx, hb, hml, hown, hts⟩ hw (k_X11_isNow l o1_1 a1_1 hn (wth_lt hp0 ht (by omega)) hI) (cv_X11_isNow hts tw_1053 rfl rfl ⟨Nat.le_of_ble_eq_true rfl, Nat.le_of_ble_eq_true rfl⟩) (by decide) o1_1 rfl rfl hl.1 rfl (by first | exact Nat.le_of_ble_eq_true rfl | decide) dX11_jumps_72 ⟨Nat.zero_le _, Nat.zero_le _⟩) hw hS (fun r72 w2 H locs hp72 hw hS => ?_)
          obtain ⟨er72, ec72⟩ := hp72
          subst er72
          have o1_2 : w2 32 = .inr (9, [.ref (gad G 33), .ref (gad G 34), .ref (gad G 35), .int (nI n), .int (nI n1), .int z, .int (hdM f n (wthN p0 t i) d), .int (stM f n (wthN p0 t i) d), .ref (gad G 36), .ref (gad G 37), .int (nI rn), .ref (gad G 38), .int (nI tn), .int fr, .int tto, .int tk, .int wo, .ref (gad G 39), .ref (gad G 40), .ref (gad G 41), .ref (gad G 42), .ref (gad G 43), .ref (gad G 44), .int (nI n2), .int (nI qn), .int iz, .int (bi im)]) := by rw [ec72]; exact vu_s
          have a1_2 : w2 33 = .inl (gI G, 132, .inl f) := by rw [ec72]; exact (vu_e (by decide) a1_1)
          refine lv_isub hx hb dX11_jumps_75 ?_
          refine tp (y := (og f n p0 d t) (i - 1) - (og f n p0 d t) i) rfl ?_
          refine lv_istore (lv' := [(11, _), (10, _), (9, _), (8, _), (7, _), (6, _), (5, _), (4, _), (3, _), (2, _), (1, _), (0, _)]) hx hb dX11_jumps_76 hl (by decide) rfl (fun ls hl => ?_)
          have C93 : ∀ ls : Array Slot, lv_has ls 12 [(11, .int ((og f n p0 d t) (i - 1) - (og f n p0 d t) i)), (10, .int (nI i)), (9, .int (chh (og f n p0 d t) (szN t) (hcl (og f n p0 d t) (szN t) i))), (8, .int (hcl (og f n p0 d t) (szN t) i)), (7, .int (nI (cntU (CPg (og f n p0 d t)) i))), (6, .int (fstU (JP (og f n p0 d t)) i)), (5, .int (nI (cntU (JP (og f n p0 d t)) (i + 1)))), (4, .int w), (3, .int t), (2, .int d), (1, .int (nI p0)), (0, .ref (gad G 32))] → W p l e ({ frames := 6, cells := 0, slots := 0, locals := 142 } : Room) s m (([.ref (gad G 32), .int (nI p0), .int d, .int t, .int w] : List Value).toArray) below meth cd H locs 0 0 (MQ below (va_Qi (fun r (c9 : Nat → va_E) => r = spJumps f n (nI p0) d t w ∧ ∃ h8 s8 : Int32, c9 = va_up c 32 (.inr (9, [.ref (gad G 33), .ref (gad G 34), .ref (gad G 35), .int (nI n), .int (nI n1), .int z, .int (h8), .int (s8), .ref (gad G 36), .ref (gad G 37), .int (nI rn), .ref (gad G 38), .int (nI tn), .int fr, .int tto, .int tk, .int wo, .ref (gad G 39), .ref (gad G 40), .ref (gad G 41), .ref (gad G 42), .ref (gad G 43), .ref (gad G 44), .int (nI n2), .int (nI qn), .int iz, .int (bi im)]))) (fun c9 t => Hw G c9 t t.heap) (gA G)) ([.ref (gad G 32), .int (nI p0), .int d, .int t, .int w] : List Value).toArray s 0 0 (gA G)) (F0 m 93 ls []) := by
            intro ls hl
            have C113 : ∀ ls : Array Slot, lv_has ls 12 [(11, .int ((og f n p0 d t) (i - 1) - (og f n p0 d t) i)), (10, .int (nI i)), (9, .int (chh (og f n p0 d t) (szN t) (hcl (og f n p0 d t) (szN t) i))), (8, .int (hcl (og f n p0 d t) (szN t) i)), (7, .int (nI (cntU (CPg (og f n p0 d t)) i))), (6, .int (fstU (JP (og f n p0 d t)) (i + 1))), (5, .int (nI (cntU (JP (og f n p0 d t)) (i + 1)))), (4, .int w), (3, .int t), (2, .int d), (1, .int (nI p0)), (0, .ref (gad G 32))] → W p l e ({ frames := 6, cells := 0, slots := 0, locals := 142 } : Room) s m (([.ref (gad G 32), .int (nI p0), .int d, .int t, .int w] : List Value).toArray) below meth cd H locs 0 0 (MQ below (va_Qi (fun r (c9 : Nat → va_E) => r = spJumps f n (nI p0) d t w ∧ ∃ h8 s8 : Int32, c9 = va_up c 32 (.inr (9, [.ref (gad G 33), .ref (gad G 34), .ref (gad G 35), .int (nI n), .int (nI n1), .int z, .int (h8), .int (s8), .ref (gad G 36), .ref (gad G 37), .int (nI rn), .ref (gad G 38), .int (nI tn), .int fr, .int tto, .int tk, .int wo, .ref (gad G 39), .ref (gad G 40), .ref (gad G 41), .ref (gad G 42), .ref (gad G 43), .ref (gad G 44), .int (nI n2), .int (nI qn), .int iz, .int (bi im)]))) (fun c9 t => Hw G c9 t t.heap) (gA G)) ([.ref (gad G 32), .int (nI p0), .int d, .int t, .int w] : List Value).toArray s 0 0 (gA G)) (F0 m 113 ls []) := by
              intro ls hl
              have C128 : ∀ ls : Array Slot, lv_has ls 12 [(11, .int ((og f n p0 d t) (i - 1) - (og f n p0 d t) i)), (10, .int (nI i)), (9, .int (chh (og f n p0 d t) (szN t) (hcl (og f n p0 d t) (szN t) i))), (8, .int (hcl (og f n p0 d t) (szN t) i)), (7, .int (nI (cntU (CPg (og f n p0 d t)) (i + 1)))), (6, .int (fstU (JP (og f n p0 d t)) (i + 1))), (5, .int (nI (cntU (JP (og f n p0 d t)) (i + 1)))), (4, .int w), (3, .int t), (2, .int d), (1, .int (nI p0)), (0, .ref (gad G 32))] → W p l e ({ frames := 6, cells := 0, slots := 0, locals := 142 } : Room) s m (([.ref (gad G 32), .int (nI p0), .int d, .int t, .int w] : List Value).toArray) below meth cd H locs 0 0 (MQ below (va_Qi (fun r (c9 : Nat → va_E) => r = spJumps f n (nI p0) d t w ∧ ∃ h8 s8 : Int32, c9 = va_up c 32 (.inr (9, [.ref (gad G 33), .ref (gad G 34), .ref (gad G 35), .int (nI n), .int (nI n1), .int z, .int (h8), .int (s8), .ref (gad G 36), .ref (gad G 37), .int (nI rn), .ref (gad G 38), .int (nI tn), .int fr, .int tto, .int tk, .int wo, .ref (gad G 39), .ref (gad G 40), .ref (gad G 41), .ref (gad G 42), .ref (gad G 43), .ref (gad G 44), .int (nI n2), .int (nI qn), .int iz, .int (bi im)]))) (fun c9 t => Hw G c9 t t.heap) (gA G)) ([.ref (gad G 32), .int (nI p0), .int d, .int t, .int w] : List Value).toArray s 0 0 (gA G)) (F0 m 128 ls []) := by
                intro ls hl
                have C144 : ∀ ls : Array Slot, lv_has ls 12 [(11, .int ((og f n p0 d t) (i - 1) - (og f n p0 d t) i)), (10, .int (nI i)), (9, .int (chh (og f n p0 d t) (szN t) (hcl (og f n p0 d t) (szN t) i))), (8, .int (hcl (og f n p0 d t) (szN t) (i + 1))), (7, .int (nI (cntU (CPg (og f n p0 d t)) (i + 1)))), (6, .int (fstU (JP (og f n p0 d t)) (i + 1))), (5, .int (nI (cntU (JP (og f n p0 d t)) (i + 1)))), (4, .int w), (3, .int t), (2, .int d), (1, .int (nI p0)), (0, .ref (gad G 32))] → W p l e ({ frames := 6, cells := 0, slots := 0, locals := 142 } : Room) s m (([.ref (gad G 32), .int (nI p0), .int d, .int t, .int w] : List Value).toArray) below meth cd H locs 0 0 (MQ below (va_Qi (fun r (c9 : Nat → va_E) => r = spJumps f n (nI p0) d t w ∧ ∃ h8 s8 : Int32, c9 = va_up c 32 (.inr (9, [.ref (gad G 33), .ref (gad G 34), .ref (gad G 35), .int (nI n), .int (nI n1), .int z, .int (h8), .int (s8), .ref (gad G 36), .ref (gad G 37), .int (nI rn), .ref (gad G 38), .int (nI tn), .int fr, .int tto, .int tk, .int wo, .ref (gad G 39), .ref (gad G 40), .ref (gad G 41), .ref (gad G 42), .ref (gad G 43), .ref (gad G 44), .int (nI n2), .int (nI qn), .int iz, .int (bi im)]))) (fun c9 t => Hw G c9 t t.heap) (gA G)) ([.ref (gad G 32), .int (nI p0), .int d, .int t, .int w] : List Value).toArray s 0 0 (gA G)) (F0 m 144 ls []) := by
                  intro ls hl
                  have C160 : ∀ ls : Array Slot, lv_has ls 12 [(10, .int (nI i)), (9, .int (chh (og f n p0 d t) (szN t) (hcl (og f n p0 d t) (szN t) (i + 1)))), (8, .int (hcl (og f n p0 d t) (szN t) (i + 1))), (7, .int (nI (cntU (CPg (og f n p0 d t)) (i + 1)))), (6, .int (fstU (JP (og f n p0 d t)) (i + 1))), (5, .int (nI (cntU (JP (og f n p0 d t)) (i + 1)))), (4, .int w), (3, .int t), (2, .int d), (1, .int (nI p0)), (0, .ref (gad G 32))] → W p l e ({ frames := 6, cells := 0, slots := 0, locals := 142 } : Room) s m (([.ref (gad G 32), .int (nI p0), .int d, .int t, .int w] : List Value).toArray) below meth cd H locs 0 0 (MQ below (va_Qi (fun r (c9 : Nat → va_E) => r = spJumps f n (nI p0) d t w ∧ ∃ h8 s8 : Int32, c9 = va_up c 32 (.inr (9, [.ref (gad G 33), .ref (gad G 34), .ref (gad G 35), .int (nI n), .int (nI n1), .int z, .int (h8), .int (s8), .ref (gad G 36), .ref (gad G 37), .int (nI rn), .ref (gad G 38), .int (nI tn), .int fr, .int tto, .int tk, .int wo, .ref (gad G 39), .ref (gad G 40), .ref (gad G 41), .ref (gad G 42), .ref (gad G 43), .ref (gad G 44), .int (nI n2), .int (nI qn), .int iz, .int (bi im)]))) (fun c9 t => Hw G c9 t t.heap) (gA G)) ([.ref (gad G 32), .int (nI p0), .int d, .int t, .int w] : List Value).toArray s 0 0 (gA G)) (F0 m 160 ls []) := by
                    intro ls hl
                    refine lv_iinc (v := nI (i + 1)) (lv' := [(10, _), (9, _), (8, _), (7, _), (6, _), (5, _), (4, _), (3, _), (2, _), (1, _), (0, _)]) hx hb dX11_jumps_160 hl (k := 0) rfl (inc1 i) (by decide) rfl (fun ls hl => ?_)
                    refine lv_goto (tgt := 40) hx hb dX11_jumps_163 (by decide) ?_
                    exact ih (i + 1) _ _ (by omega) (by omega) _ H locs (by rw [ec72, ec60, e0, up_up, up_up]) hw hS ls (lv_sub hl [0, 1, 2, 3, 4, 5, 6, 7, 8, 9, 10] rfl)
                  refine lv_iload hx hb dX11_jumps_144 (lv_at hl 0 rfl) ?_
                  refine lv_iload hx hb dX11_jumps_146 (lv_at hl 2 rfl) ?_
                  refine lv_icmp_le (tgt := 156) hx hb dX11_jumps_148 (by decide) (fun c148 => ?_) (fun c148 => ?_)
                  · refine lv_iload hx hb dX11_jumps_156 (lv_at hl 2 rfl) ?_
                    refine tp (y := chh (og f n p0 d t) (szN t) (hcl (og f n p0 d t) (szN t) (i + 1))) (by rw [hclF c148]) ?_
                    refine lv_istore (lv' := [(9, _), (11, _), (10, _), (8, _), (7, _), (6, _), (5, _), (4, _), (3, _), (2, _), (1, _), (0, _)]) hx hb dX11_jumps_158 hl (by decide) rfl (fun ls hl => ?_)
                    exact C160 ls (lv_sub hl [2, 0, 3, 4, 5, 6, 7, 8, 9, 10, 11] rfl)
                  · skip
                    refine lv_iload hx hb dX11_jumps_151 (lv_at hl 0 rfl) ?_
                    refine lv_goto (tgt := 158) hx hb dX11_jumps_153 (by decide) ?_
                    refine tp (y := chh (og f n p0 d t) (szN t) (hcl (og f n p0 d t) (szN t) (i + 1))) (hclV hi (by omega) (by omega) c148) ?_
                    refine lv_istore (lv' := [(9, _), (11, _), (10, _), (8, _), (7, _), (6, _), (5, _), (4, _), (3, _), (2, _), (1, _), (0, _)]) hx hb dX11_jumps_158 hl (by decide) rfl (fun ls hl => ?_)
                    exact C160 ls (lv_sub hl [2, 0, 3, 4, 5, 6, 7, 8, 9, 10, 11] rfl)
                refine lv_iload hx hb dX11_jumps_128 (lv_at hl 0 rfl) ?_
                refine lv_iload hx hb dX11_jumps_130 (lv_at hl 2 rfl) ?_
                refine lv_icmp_le (tgt := 140) hx hb dX11_jumps_132 (by decide) (fun c132 => ?_) (fun c132 => ?_)
                · refine lv_iload hx hb dX11_jumps_140 (lv_at hl 3 rfl) ?_
                  refine tp (y := hcl (og f n p0 d t) (szN t) (i + 1)) ((hclF c132).symm) ?_
                  refine lv_istore (lv' := [(8, _), (11, _), (10, _), (9, _), (7, _), (6, _), (5, _), (4, _), (3, _), (2, _), (1, _), (0, _)]) hx hb dX11_jumps_142 hl (by decide) rfl (fun ls hl => ?_)
                  exact C144 ls (lv_sub hl [1, 2, 3, 0, 4, 5, 6, 7, 8, 9, 10, 11] rfl)
                · skip
                  refine lv_iload hx hb dX11_jumps_135 (lv_at hl 1 rfl) ?_
                  refine lv_goto (tgt := 142) hx hb dX11_jumps_137 (by decide) ?_
                  refine tp (y := hcl (og f n p0 d t) (szN t) (i + 1)) ((hclT hi c132).symm) ?_
                  refine lv_istore (lv' := [(8, _), (11, _), (10, _), (9, _), (7, _), (6, _), (5, _), (4, _), (3, _), (2, _), (1, _), (0, _)]) hx hb dX11_jumps_142 hl (by decide) rfl (fun ls hl => ?_)
                  exact C144 ls (lv_sub hl [1, 2, 3, 0, 4, 5, 6, 7, 8, 9, 10, 11] rfl)
              refine lv_iload hx hb dX11_jumps_113 (lv_at hl 4 rfl) ?_
              refine lv_iload hx hb dX11_jumps_115 (lv_at hl 0 rfl) ?_
              refine lv_if_le (tgt := 124) hx hb dX11_jumps_117 (by decide) (fun c117 => ?_) (fun c117 => ?_)
              · refine lv_iconst (v := 0) hx hb dX11_jumps_124 (by decide) ?_
                refine lv_iadd hx hb dX11_jumps_125 ?_
                refine tp (y := nI (cntU (CPg (og f n p0 d t)) (i + 1))) (by rw [cnt_n (CPf c117)]; exact Int32.add_zero _) ?_
                refine lv_istore (lv' := [(7, _), (11, _), (10, _), (9, _), (8, _), (6, _), (5, _), (4, _), (3, _), (2, _), (1, _), (0, _)]) hx hb dX11_jumps_126 hl (by decide) rfl (fun ls hl => ?_)
                exact C128 ls (lv_sub hl [1, 2, 3, 4, 0, 5, 6, 7, 8, 9, 10, 11] rfl)
              · skip
                refine lv_iconst (v := 1) hx hb dX11_jumps_120 (by decide) ?_
                refine lv_goto (tgt := 125) hx hb dX11_jumps_121 (by decide) ?_
                refine lv_iadd hx hb dX11_jumps_125 ?_
                refine tp (y := nI (cntU (CPg (og f n p0 d t)) (i + 1))) (cnt_s (CPt hi c117)) ?_
                refine lv_istore (lv' := [(7, _), (11, _), (10, _), (9, _), (8, _), (6, _), (5, _), (4, _), (3, _), (2, _), (1, _), (0, _)]) hx hb dX11_jumps_126 hl (by decide) rfl (fun ls hl => ?_)
                exact C128 ls (lv_sub hl [1, 2, 3, 4, 0, 5, 6, 7, 8, 9, 10, 11] rfl)
            refine lv_iload hx hb dX11_jumps_93 (lv_at hl 5 rfl) ?_
            refine lv_iconst (v := (-1)) hx hb dX11_jumps_95 (by decide) ?_
            refine lv_icmp_ne (tgt := 109) hx hb dX11_jumps_96 (by decide) (fun c96 => ?_) (fun c96 => ?_)
            · refine lv_iload hx hb dX11_jumps_109 (lv_at hl 5 rfl) ?_
              refine tp (y := fstU (JP (og f n p0 d t)) (i + 1)) (by rw [fstU]; simp [c96]) ?_
              refine lv_istore (lv' := [(6, _), (11, _), (10, _), (9, _), (8, _), (7, _), (5, _), (4, _), (3, _), (2, _), (1, _), (0, _)]) hx hb dX11_jumps_111 hl (by decide) rfl (fun ls hl => ?_)
              exact C113 ls (lv_sub hl [1, 2, 3, 4, 5, 0, 6, 7, 8, 9, 10, 11] rfl)
            · refine lv_iload hx hb dX11_jumps_99 (lv_at hl 0 rfl) ?_
              refine lv_if_eq (tgt := 109) hx hb dX11_jumps_101 (by decide) (fun c101 => ?_) (fun c101 => ?_)
              · refine lv_iload hx hb dX11_jumps_109 (lv_at hl 5 rfl) ?_
                refine tp (y := fstU (JP (og f n p0 d t)) (i + 1)) (by rw [fstU, JPf c101]; simp) ?_
                refine lv_istore (lv' := [(6, _), (11, _), (10, _), (9, _), (8, _), (7, _), (5, _), (4, _), (3, _), (2, _), (1, _), (0, _)]) hx hb dX11_jumps_111 hl (by decide) rfl (fun ls hl => ?_)
                exact C113 ls (lv_sub hl [1, 2, 3, 4, 5, 0, 6, 7, 8, 9, 10, 11] rfl)
              · refine lv_iload hx hb dX11_jumps_104 (lv_at hl 1 rfl) ?_
                refine lv_goto (tgt := 111) hx hb dX11_jumps_106 (by decide) ?_
                refine tp (y := fstU (JP (og f n p0 d t)) (i + 1)) (by rw [fstU, JPt hi c101]; simp [c96]) ?_
                refine lv_istore (lv' := [(6, _), (11, _), (10, _), (9, _), (8, _), (7, _), (5, _), (4, _), (3, _), (2, _), (1, _), (0, _)]) hx hb dX11_jumps_111 hl (by decide) rfl (fun ls hl => ?_)
                exact C113 ls (lv_sub hl [1, 2, 3, 4, 5, 0, 6, 7, 8, 9, 10, 11] rfl)
          refine lv_iload hx hb dX11_jumps_78 (lv_at hl 6 rfl) ?_
          refine lv_iload hx hb dX11_jumps_80 (lv_at hl 0 rfl) ?_
          refine lv_if_ne (tgt := 89) hx hb dX11_jumps_82 (by decide) (fun c82 => ?_) (fun c82 => ?_)
          · refine lv_iconst (v := 1) hx hb dX11_jumps_89 (by decide) ?_
            refine lv_iadd hx hb dX11_jumps_90 ?_
            refine tp (y := nI (cntU (JP (og f n p0 d t)) (i + 1))) (cnt_s (JPt hi c82)) ?_
            refine lv_istore (lv' := [(5, _), (11, _), (10, _), (9, _), (8, _), (7, _), (6, _), (4, _), (3, _), (2, _), (1, _), (0, _)]) hx hb dX11_jumps_91 hl (by decide) rfl (fun ls hl => ?_)
            exact C93 ls (lv_sub hl [1, 2, 3, 4, 5, 6, 0, 7, 8, 9, 10, 11] rfl)
          · refine lv_iconst (v := 0) hx hb dX11_jumps_85 (by decide) ?_
            refine lv_goto (tgt := 90) hx hb dX11_jumps_86 (by decide) ?_
            refine lv_iadd hx hb dX11_jumps_90 ?_
            refine tp (y := nI (cntU (JP (og f n p0 d t)) (i + 1))) (by rw [cnt_n (JPf c82)]; exact Int32.add_zero _) ?_
            refine lv_istore (lv' := [(5, _), (11, _), (10, _), (9, _), (8, _), (7, _), (6, _), (4, _), (3, _), (2, _), (1, _), (0, _)]) hx hb dX11_jumps_91 hl (by decide) rfl (fun ls hl => ?_)
            exact C93 ls (lv_sub hl [1, 2, 3, 4, 5, 6, 0, 7, 8, 9, 10, 11] rfl)
      exact L40 (szN t - 1) 1 hd sd (by omega) (by omega) _ H locs (up_id o1).symm hw hS ls (lv_sub hl [0, 1, 2, 3, 4, 5, 10, 9, 8, 7, 6] rfl)
    · refine lv_bipush (v := (-2)) hx hb dX11_jumps_19 (by decide) ?_
      exact re_Q hx hb hr hlocks (rfl) hw hS dX11_jumps_21 (⟨by rw [spJumps, c6]; obtain ⟨y0, y1, y2, y3, y4⟩ := wn4_f c16; simp [y0, y1, y2, y3, y4], ⟨hd, sd, (up_id o1).symm⟩⟩)
set_option maxHeartbeats 4000000 in
set_option maxRecDepth 100000 in
theorem k_X11_bends (l : Launch) {G : GT} {c : Nat → va_E} {n n1 rn tn n2 qn : Nat} {z hd sd fr tto tk wo iz : Int32} {im : Bool} (o1 : c 32 = .inr (9, [.ref (gad G 33), .ref (gad G 34), .ref (gad G 35), .int (nI n), .int (nI n1), .int z, .int hd, .int sd, .ref (gad G 36), .ref (gad G 37), .int (nI rn), .ref (gad G 38), .int (nI tn), .int fr, .int tto, .int tk, .int wo, .ref (gad G 39), .ref (gad G 40), .ref (gad G 41), .ref (gad G 42), .ref (gad G 43), .ref (gad G 44), .int (nI n2), .int (nI qn), .int iz, .int (bi im)])) {f : Nat → Int32} (a1 : c 33 = .inl (gI G, 132, .inl f)) (hn : n ≤ 12) {a d t w : Int32} (hI : cI f n) : Met l yX11_bends (wv yX11_bends cX11_bends 13 (some .int)) ({ frames := 6, cells := 0, slots := 0, locals := 142 } : Room) (va_Pc [.ref (gad G 32), .int a, .int d, .int t, .int w] (fun U => Hw G c U U.heap)) (va_Qi (fun r (c9 : Nat → va_E) => r = spBends f n a d t w ∧ ∃ h8 s8 : Int32, c9 = va_up c 32 (.inr (9, [.ref (gad G 33), .ref (gad G 34), .ref (gad G 35), .int (nI n), .int (nI n1), .int z, .int (h8), .int (s8), .ref (gad G 36), .ref (gad G 37), .int (nI rn), .ref (gad G 38), .int (nI tn), .int fr, .int tto, .int tk, .int wo, .ref (gad G 39), .ref (gad G 40), .ref (gad G 41), .ref (gad G 42), .ref (gad G 43), .ref (gad G 44), .int (nI n2), .int (nI qn), .int iz, .int (bi im)]))) (fun c9 t => Hw G c9 t t.heap) (gA G)) 0 0 (gA G) := by
  refine en (by decide +kernel) (by first | exact Nat.le_of_ble_eq_true rfl | decide) ?_
  intro p e s m below meth cd ls hx hb hr hml hown hts hlocks hnm hw hl
  have hl : lv_has ls 13 [(0, .ref (gad G 32)), (1, .int a), (2, .int d), (3, .int t), (4, .int w)] := hl
  have hX : Sw G s s.heap := hw.2.2.2.2.2
  have hS : va_S (gA G) s.heap s.heap [] := va_S.rf
  obtain ⟨H, hH⟩ : ∃ wz9, wz9 = s.heap := ⟨_, rfl⟩
  obtain ⟨locs, hlocs⟩ : ∃ wz9 : List Loc, wz9 = [] := ⟨_, rfl⟩
  have hw : Hw G c s H := by rw [hH]; exact hw
  have hS : va_S (gA G) s.heap H locs := by rw [hH, hlocs]; exact hS
  suffices hgo : W p l e ({ frames := 6, cells := 0, slots := 0, locals := 142 } : Room) s m (([.ref (gad G 32), .int a, .int d, .int t, .int w] : List Value).toArray) below meth cd H locs 0 0 (MQ below (va_Qi (fun r (c9 : Nat → va_E) => r = spBends f n a d t w ∧ ∃ h8 s8 : Int32, c9 = va_up c 32 (.inr (9, [.ref (gad G 33), .ref (gad G 34), .ref (gad G 35), .int (nI n), .int (nI n1), .int z, .int (h8), .int (s8), .ref (gad G 36), .ref (gad G 37), .int (nI rn), .ref (gad G 38), .int (nI tn), .int fr, .int tto, .int tk, .int wo, .ref (gad G 39), .ref (gad G 40), .ref (gad G 41), .ref (gad G 42), .ref (gad G 43), .ref (gad G 44), .int (nI n2), .int (nI qn), .int iz, .int (bi im)]))) (fun c9 t => Hw G c9 t t.heap) (gA G)) ([.ref (gad G 32), .int a, .int d, .int t, .int w] : List Value).toArray s 0 0 (gA G)) (F0 m 0 ls []) by rw [hH, hlocs] at hgo; exact hgo
  refine lv_iload_n hx hb dX11_bends_0 rfl (lv_at hl 1 rfl) ?_
  refine lv_iload_n hx hb dX11_bends_1 rfl (lv_at hl 2 rfl) ?_
  refine lv_iload_n hx hb dX11_bends_2 rfl (lv_at hl 3 rfl) ?_
  refine cSe (rST (As := [_, _, _]) ⟨hx, hb, hml, hown, hts⟩ (k_X11_isAlong l ) (cv_X11_isAlong hts tw_1098 rfl rfl ⟨Nat.le_of_ble_eq_true rfl, Nat.le_of_ble_eq_true rfl⟩) rfl hl.1 rfl (by first | exact Nat.le_of_ble_eq_true rfl | decide) dX11_bends_3 ⟨Nat.zero_le _, Nat.zero_le _⟩) ?_
  refine zb_eq (tgt := 19) hx hb dX11_bends_6 (by decide) (fun c6 => ?_) (fun c6 => ?_)
  · refine lv_bipush (v := (-2)) hx hb dX11_bends_19 (by decide) ?_
    exact re_Q hx hb hr hlocks (rfl) hw hS dX11_bends_21 (⟨by rw [spBends, c6]; rfl, ⟨hd, sd, (up_id o1).symm⟩⟩)
  · refine lv_iload hx hb dX11_bends_9 (lv_at hl 4 rfl) ?_
    refine lv_iconst (v := 0) hx hb dX11_bends_11 (by decide) ?_
    refine lv_iconst (v := 2) hx hb dX11_bends_12 (by decide) ?_
    refine cSe (rST (As := [_, _, _]) ⟨hx, hb, hml, hown, hts⟩ (k_X11_in l ) (cv_X11_in hts tw_987 rfl rfl ⟨Nat.le_of_ble_eq_true rfl, Nat.le_of_ble_eq_true rfl⟩) rfl hl.1 rfl (by first | exact Nat.le_of_ble_eq_true rfl | decide) dX11_bends_13 ⟨Nat.zero_le _, Nat.zero_le _⟩) ?_
    refine zb_ne (tgt := 22) hx hb dX11_bends_16 (by decide) (fun c16 => ?_) (fun c16 => ?_)
    · have hal := c6
      simp only [Bool.and_eq_true] at hal
      obtain ⟨⟨ha1, ha2⟩, ha3⟩ := hal
      obtain ⟨p0, hp0, rfl⟩ := isP_t ha1
      have ht := isSh_t ha3
      have hsz := sz_le ht
      have hszm := szN_m ht
      refine lv_iconst (v := 0) hx hb dX11_bends_22 (by decide) ?_
      refine lv_istore (lv' := [(5, _), (0, _), (1, _), (2, _), (3, _), (4, _)]) hx hb dX11_bends_23 hl (by decide) rfl (fun ls hl => ?_)
      refine lv_iconst (v := (-1)) hx hb dX11_bends_25 (by decide) ?_
      refine lv_istore (lv' := [(6, _), (5, _), (0, _), (1, _), (2, _), (3, _), (4, _)]) hx hb dX11_bends_26 hl (by decide) rfl (fun ls hl => ?_)
      refine lv_iconst (v := 1) hx hb dX11_bends_28 (by decide) ?_
      refine lv_istore (lv' := [(7, _), (6, _), (5, _), (0, _), (1, _), (2, _), (3, _), (4, _)]) hx hb dX11_bends_29 hl (by decide) rfl (fun ls hl => ?_)
      refine lv_iconst (v := 1) hx hb dX11_bends_31 (by decide) ?_
      refine lv_istore (lv' := [(8, _), (7, _), (6, _), (5, _), (0, _), (1, _), (2, _), (3, _), (4, _)]) hx hb dX11_bends_32 hl (by decide) rfl (fun ls hl => ?_)
      refine lv_iconst (v := 0) hx hb dX11_bends_34 (by decide) ?_
      refine lv_istore (lv' := [(9, _), (8, _), (7, _), (6, _), (5, _), (0, _), (1, _), (2, _), (3, _), (4, _)]) hx hb dX11_bends_35 hl (by decide) rfl (fun ls hl => ?_)
      refine lv_iconst (v := 1) hx hb dX11_bends_37 (by decide) ?_
      refine lv_istore (lv' := [(10, _), (9, _), (8, _), (7, _), (6, _), (5, _), (0, _), (1, _), (2, _), (3, _), (4, _)]) hx hb dX11_bends_38 hl (by decide) rfl (fun ls hl => ?_)
      have L40 : ∀ (N : Nat) (i : Nat) (sp9 h7 s7 : Int32), (i + N = szN t) → (1 ≤ i) → ((i = 1 ∧ sp9 = 0) ∨ (2 ≤ i ∧ sp9 = (og f n p0 d t) (i - 1) - (og f n p0 d t) (i - 2))) → ∀ (c0 : Nat → va_E) (H : Heap) (locs : List Loc), (c0 = va_up c 32 (.inr (9, [.ref (gad G 33), .ref (gad G 34), .ref (gad G 35), .int (nI n), .int (nI n1), .int z, .int (h7), .int (s7), .ref (gad G 36), .ref (gad G 37), .int (nI rn), .ref (gad G 38), .int (nI tn), .int fr, .int tto, .int tk, .int wo, .ref (gad G 39), .ref (gad G 40), .ref (gad G 41), .ref (gad G 42), .ref (gad G 43), .ref (gad G 44), .int (nI n2), .int (nI qn), .int iz, .int (bi im)]))) → Hw G c0 s H → va_S (gA G) s.heap H locs → ∀ ls : Array Slot, lv_has ls 13 [(10, .int (nI i)), (9, .int (sp9)), (8, .int (lvl (og f n p0 d t) i).1), (7, .int (lvl (og f n p0 d t) i).2), (6, .int (fstU (BP (og f n p0 d t)) i)), (5, .int (nI (cntU (BP (og f n p0 d t)) i))), (4, .int w), (3, .int t), (2, .int d), (1, .int (nI p0)), (0, .ref (gad G 32))] → W p l e ({ frames := 6, cells := 0, slots := 0, locals := 142 } : Room) s m (([.ref (gad G 32), .int (nI p0), .int d, .int t, .int w] : List Value).toArray) below meth cd H locs 0 0 (MQ below (va_Qi (fun r (c9 : Nat → va_E) => r = spBends f n (nI p0) d t w ∧ ∃ h8 s8 : Int32, c9 = va_up c 32 (.inr (9, [.ref (gad G 33), .ref (gad G 34), .ref (gad G 35), .int (nI n), .int (nI n1), .int z, .int (h8), .int (s8), .ref (gad G 36), .ref (gad G 37), .int (nI rn), .ref (gad G 38), .int (nI tn), .int fr, .int tto, .int tk, .int wo, .ref (gad G 39), .ref (gad G 40), .ref (gad G 41), .ref (gad G 42), .ref (gad G 43), .ref (gad G 44), .int (nI n2), .int (nI qn), .int iz, .int (bi im)]))) (fun c9 t => Hw G c9 t t.heap) (gA G)) ([.ref (gad G 32), .int (nI p0), .int d, .int t, .int w] : List Value).toArray s 0 0 (gA G)) (F0 m 40 ls []) := by
        intro N
        induction N with
        | zero =>
          intro i  sp9 h7 s7  hN hi hst c0 H locs e0 hw hS ls hl
          have hin : szN t = i := by omega
          refine lv_iload hx hb dX11_bends_40 (lv_at hl 0 rfl) ?_
          refine lv_iload_n hx hb dX11_bends_42 rfl (lv_at hl 7 rfl) ?_
          refine cSe (rST (As := [_]) ⟨hx, hb, hml, hown, hts⟩ (k_X11_sizeOf l ) (cv_X11_sizeOf hts tw_1040 rfl rfl ⟨Nat.le_of_ble_eq_true rfl, Nat.le_of_ble_eq_true rfl⟩) rfl hl.1 rfl (by first | exact Nat.le_of_ble_eq_true rfl | decide) dX11_bends_43 ⟨Nat.zero_le _, Nat.zero_le _⟩) ?_
          refine tp (y := nI (szN t)) hszm ?_
          refine lv_icmp_ge (tgt := 174) hx hb dX11_bends_46 (by decide) (fun c46 => ?_) (fun q => absurd (nI_le (by omega) (by omega)) q)
          refine lv_iload hx hb dX11_bends_174 (lv_at hl 6 rfl) ?_
          refine lv_if_ne (tgt := 184) hx hb dX11_bends_176 (by decide) (fun c176 => ?_) (fun c176 => ?_)
          · refine lv_iload hx hb dX11_bends_184 (lv_at hl 6 rfl) ?_
            refine lv_iconst (v := 1) hx hb dX11_bends_186 (by decide) ?_
            refine lv_icmp_ne (tgt := 195) hx hb dX11_bends_187 (by decide) (fun c187 => ?_) (fun c187 => ?_)
            · refine lv_iload hx hb dX11_bends_195 (lv_at hl 2 rfl) ?_
              exact re_Q hx hb hr hlocks (rfl) hw hS dX11_bends_197 (⟨by rw [spBends, show (isP (nI p0) && isDy d && isSh t) = true from c6, pN_nI hp0, hin]; have hw4 := wn2_2 c16 c176 c187; simp only [if_true]; rw [if_neg c176, if_neg c187, if_pos hw4], _, _, e0⟩)
            · refine lv_iload hx hb dX11_bends_190 (lv_at hl 4 rfl) ?_
              refine lv_goto (tgt := 197) hx hb dX11_bends_192 (by decide) ?_
              exact re_Q hx hb hr hlocks (rfl) hw hS dX11_bends_197 (⟨by rw [spBends, show (isP (nI p0) && isDy d && isSh t) = true from c6, pN_nI hp0, hin]; simp only [if_true]; rw [if_neg c176, if_pos c187], _, _, e0⟩)
          · refine lv_iload hx hb dX11_bends_179 (lv_at hl 5 rfl) ?_
            refine lv_goto (tgt := 197) hx hb dX11_bends_181 (by decide) ?_
            exact re_Q hx hb hr hlocks (rfl) hw hS dX11_bends_197 (⟨by rw [spBends, show (isP (nI p0) && isDy d && isSh t) = true from c6, pN_nI hp0, hin]; simp only [if_true]; rw [if_pos c176], _, _, e0⟩)
        | succ N ih =>
          intro i  sp9 h7 s7  hN hi hst c0 H locs e0 hw hS ls hl
          have o1 : c0 32 = .inr (9, [.ref (gad G 33), .ref (gad G 34), .ref (gad G 35), .int (nI n), .int (nI n1), .int z, .int (h7), .int (s7), .ref (gad G 36), .ref (gad G 37), .int (nI rn), .ref (gad G 38), .int (nI tn), .int fr, .int tto, .int tk, .int wo, .ref (gad G 39), .ref (gad G 40), .ref (gad G 41), .ref (gad G 42), .ref (gad G 43), .ref (gad G 44), .int (nI n2), .int (nI qn), .int iz, .int (bi im)]) := by rw [e0]; exact vu_s
          have a1 : c0 33 = .inl (gI G, 132, .inl f) := by rw [e0]; exact vu_e (by decide) a1
          refine lv_iload hx hb dX11_bends_40 (lv_at hl 0 rfl) ?_
          refine lv_iload_n hx hb dX11_bends_42 rfl (lv_at hl 7 rfl) ?_
          refine cSe (rST (As := [_]) ⟨hx, hb, hml, hown, hts⟩ (k_X11_sizeOf l ) (cv_X11_sizeOf hts tw_1040 rfl rfl ⟨Nat.le_of_ble_eq_true rfl, Nat.le_of_ble_eq_true rfl⟩) rfl hl.1 rfl (by first | exact Nat.le_of_ble_eq_true rfl | decide) dX11_bends_43 ⟨Nat.zero_le _, Nat.zero_le _⟩) ?_
          refine tp (y := nI (szN t)) hszm ?_
          refine lv_icmp_ge (tgt := 174) hx hb dX11_bends_46 (by decide) (fun q => absurd q (nI_ge (by omega) (by omega))) (fun c46 => ?_)
          refine lv_aload_n hx hb dX11_bends_49 rfl (lv_at hl 10 rfl) ?_
          refine lv_iload_n hx hb dX11_bends_50 rfl (lv_at hl 9 rfl) ?_
          refine lv_iload_n hx hb dX11_bends_51 rfl (lv_at hl 7 rfl) ?_
          refine lv_iload hx hb dX11_bends_52 (lv_at hl 0 rfl) ?_
          refine cSe (rST (As := [_, _, _]) ⟨hx, hb, hml, hown, hts⟩ (k_X11_with l hp0 ht) (cv_X11_with hts tw_1101 rfl rfl ⟨Nat.le_of_ble_eq_true rfl, Nat.le_of_ble_eq_true rfl⟩) rfl hl.1 rfl (by first | exact Nat.le_of_ble_eq_true rfl | decide) dX11_bends_54 ⟨Nat.zero_le _, Nat.zero_le _⟩) ?_
          refine lv_iload_n hx hb dX11_bends_57 rfl (lv_at hl 8 rfl) ?_
          refine cQi (rV (As := [_, _]) ⟨hx, hb, hml, hown, hts⟩ hw (k_X11_isNow l o1 a1 hn (wth_lt hp0 ht (by omega)) hI) (cv_X11_isNow hts tw_1053 rfl rfl ⟨Nat.le_of_ble_eq_true rfl, Nat.le_of_ble_eq_true rfl⟩) (by decide) o1 rfl rfl hl.1 rfl (by first | exact Nat.le_of_ble_eq_true rfl | decide) dX11_bends_58 ⟨Nat.zero_le _, Nat.zero_le _⟩) hw hS (fun r58 w1 H locs hp58 hw hS => ?_)
          obtain ⟨er58, ec58⟩ := hp58
          subst er58
          have o1_1 : w1 32 = .inr (9, [.ref (gad G 33), .ref (gad G 34), .ref (gad G 35), .int (nI n), .int (nI n1), .int z, .int (hdM f n (wthN p0 t i) d), .int (stM f n (wthN p0 t i) d), .ref (gad G 36), .ref (gad G 37), .int (nI rn), .ref (gad G 38), .int (nI tn), .int fr, .int tto, .int tk, .int wo, .ref (gad G 39), .ref (gad G 40), .ref (gad G 41), .ref (gad G 42), .ref (gad G 43), .ref (gad G 44), .int (nI n2), .int (nI qn), .int iz, .int (bi im)]) := by rw [ec58]; exact vu_s
          have a1_1 : w1 33 = .inl (gI G, 132, .inl f) := by rw [ec58]; exact (vu_e (by decide) a1)
          refine lv_aload_n hx hb dX11_bends_61 rfl (lv_at hl 10 rfl) ?_
          refine lv_iload_n hx hb dX11_bends_62 rfl (lv_at hl 9 rfl) ?_
          refine lv_iload_n hx hb dX11_bends_63 rfl (lv_at hl 7 rfl) ?_
          refine lv_iload hx hb dX11_bends_64 (lv_at hl 0 rfl) ?_
          refine lv_iconst (v := 1) hx hb dX11_bends_66 (by decide) ?_
          refine lv_isub hx hb dX11_bends_67 ?_
          refine tp (y := nI (i - 1)) (ixp hi) ?_
          refine cSe (rST (As := [_, _, _]) ⟨hx, hb, hml, hown, hts⟩ (k_X11_with l hp0 ht) (cv_X11_with hts tw_1101 rfl rfl ⟨Nat.le_of_ble_eq_true rfl, Nat.le_of_ble_eq_true rfl⟩) rfl hl.1 rfl (by first | exact Nat.le_of_ble_eq_true rfl | decide) dX11_bends_68 ⟨Nat.zero_le _, Nat.zero_le _⟩) ?_
          refine lv_iload_n hx hb dX11_bends_71 rfl (lv_at hl 8 rfl) ?_
          refine cQi (rV (As := [_, _]) ⟨hx, hb, hml, hown, hts⟩ hw (k_X11_isNow l o1_1 a1_1 hn (wth_lt hp0 ht (by omega)) hI) (cv_X11_isNow hts tw_1053 rfl rfl ⟨Nat.le_of_ble_eq_true rfl, Nat.le_of_ble_eq_true rfl⟩) (by decide) o1_1 rfl rfl hl.1 rfl (by first | exact Nat.le_of_ble_eq_true rfl | decide) dX11_bends_72 ⟨Nat.zero_le _, Nat.zero_le _⟩) hw hS (fun r72 w2 H locs hp72 hw hS => ?_)
          obtain ⟨er72, ec72⟩ := hp72
          subst er72
          have o1_2 : w2 32 = .inr (9, [.ref (gad G 33), .ref (gad G 34), .ref (gad G 35), .int (nI n), .int (nI n1), .int z, .int (hdM f n (wthN p0 t (i - 1)) d), .int (stM f n (wthN p0 t (i - 1)) d), .ref (gad G 36), .ref (gad G 37), .int (nI rn), .ref (gad G 38), .int (nI tn), .int fr, .int tto, .int tk, .int wo, .ref (gad G 39), .ref (gad G 40), .ref (gad G 41), .ref (gad G 42), .ref (gad G 43), .ref (gad G 44), .int (nI n2), .int (nI qn), .int iz, .int (bi im)]) := by rw [ec72]; exact vu_s
          have a1_2 : w2 33 = .inl (gI G, 132, .inl f) := by rw [ec72]; exact (vu_e (by decide) a1_1)
          refine lv_isub hx hb dX11_bends_75 ?_
          refine tp (y := (og f n p0 d t) i - (og f n p0 d t) (i - 1)) rfl ?_
          refine lv_istore (lv' := [(11, _), (10, _), (9, _), (8, _), (7, _), (6, _), (5, _), (4, _), (3, _), (2, _), (1, _), (0, _)]) hx hb dX11_bends_76 hl (by decide) rfl (fun ls hl => ?_)
          have C98 : ∀ ls : Array Slot, lv_has ls 13 [(12, .int (bi (BP (og f n p0 d t) i))), (11, .int ((og f n p0 d t) i - (og f n p0 d t) (i - 1))), (10, .int (nI i)), (9, .int (sp9)), (8, .int (lvl (og f n p0 d t) i).1), (7, .int (lvl (og f n p0 d t) i).2), (6, .int (fstU (BP (og f n p0 d t)) i)), (5, .int (nI (cntU (BP (og f n p0 d t)) i))), (4, .int w), (3, .int t), (2, .int d), (1, .int (nI p0)), (0, .ref (gad G 32))] → W p l e ({ frames := 6, cells := 0, slots := 0, locals := 142 } : Room) s m (([.ref (gad G 32), .int (nI p0), .int d, .int t, .int w] : List Value).toArray) below meth cd H locs 0 0 (MQ below (va_Qi (fun r (c9 : Nat → va_E) => r = spBends f n (nI p0) d t w ∧ ∃ h8 s8 : Int32, c9 = va_up c 32 (.inr (9, [.ref (gad G 33), .ref (gad G 34), .ref (gad G 35), .int (nI n), .int (nI n1), .int z, .int (h8), .int (s8), .ref (gad G 36), .ref (gad G 37), .int (nI rn), .ref (gad G 38), .int (nI tn), .int fr, .int tto, .int tk, .int wo, .ref (gad G 39), .ref (gad G 40), .ref (gad G 41), .ref (gad G 42), .ref (gad G 43), .ref (gad G 44), .int (nI n2), .int (nI qn), .int iz, .int (bi im)]))) (fun c9 t => Hw G c9 t t.heap) (gA G)) ([.ref (gad G 32), .int (nI p0), .int d, .int t, .int w] : List Value).toArray s 0 0 (gA G)) (F0 m 98 ls []) := by
            intro ls hl
            have C113 : ∀ ls : Array Slot, lv_has ls 13 [(12, .int (bi (BP (og f n p0 d t) i))), (11, .int ((og f n p0 d t) i - (og f n p0 d t) (i - 1))), (10, .int (nI i)), (9, .int (sp9)), (8, .int (lvl (og f n p0 d t) i).1), (7, .int (lvl (og f n p0 d t) i).2), (6, .int (fstU (BP (og f n p0 d t)) i)), (5, .int (nI (cntU (BP (og f n p0 d t)) (i + 1)))), (4, .int w), (3, .int t), (2, .int d), (1, .int (nI p0)), (0, .ref (gad G 32))] → W p l e ({ frames := 6, cells := 0, slots := 0, locals := 142 } : Room) s m (([.ref (gad G 32), .int (nI p0), .int d, .int t, .int w] : List Value).toArray) below meth cd H locs 0 0 (MQ below (va_Qi (fun r (c9 : Nat → va_E) => r = spBends f n (nI p0) d t w ∧ ∃ h8 s8 : Int32, c9 = va_up c 32 (.inr (9, [.ref (gad G 33), .ref (gad G 34), .ref (gad G 35), .int (nI n), .int (nI n1), .int z, .int (h8), .int (s8), .ref (gad G 36), .ref (gad G 37), .int (nI rn), .ref (gad G 38), .int (nI tn), .int fr, .int tto, .int tk, .int wo, .ref (gad G 39), .ref (gad G 40), .ref (gad G 41), .ref (gad G 42), .ref (gad G 43), .ref (gad G 44), .int (nI n2), .int (nI qn), .int iz, .int (bi im)]))) (fun c9 t => Hw G c9 t t.heap) (gA G)) ([.ref (gad G 32), .int (nI p0), .int d, .int t, .int w] : List Value).toArray s 0 0 (gA G)) (F0 m 113 ls []) := by
              intro ls hl
              have C133 : ∀ ls : Array Slot, lv_has ls 13 [(11, .int ((og f n p0 d t) i - (og f n p0 d t) (i - 1))), (10, .int (nI i)), (9, .int (sp9)), (8, .int (lvl (og f n p0 d t) i).1), (7, .int (lvl (og f n p0 d t) i).2), (6, .int (fstU (BP (og f n p0 d t)) (i + 1))), (5, .int (nI (cntU (BP (og f n p0 d t)) (i + 1)))), (4, .int w), (3, .int t), (2, .int d), (1, .int (nI p0)), (0, .ref (gad G 32))] → W p l e ({ frames := 6, cells := 0, slots := 0, locals := 142 } : Room) s m (([.ref (gad G 32), .int (nI p0), .int d, .int t, .int w] : List Value).toArray) below meth cd H locs 0 0 (MQ below (va_Qi (fun r (c9 : Nat → va_E) => r = spBends f n (nI p0) d t w ∧ ∃ h8 s8 : Int32, c9 = va_up c 32 (.inr (9, [.ref (gad G 33), .ref (gad G 34), .ref (gad G 35), .int (nI n), .int (nI n1), .int z, .int (h8), .int (s8), .ref (gad G 36), .ref (gad G 37), .int (nI rn), .ref (gad G 38), .int (nI tn), .int fr, .int tto, .int tk, .int wo, .ref (gad G 39), .ref (gad G 40), .ref (gad G 41), .ref (gad G 42), .ref (gad G 43), .ref (gad G 44), .int (nI n2), .int (nI qn), .int iz, .int (bi im)]))) (fun c9 t => Hw G c9 t t.heap) (gA G)) ([.ref (gad G 32), .int (nI p0), .int d, .int t, .int w] : List Value).toArray s 0 0 (gA G)) (F0 m 133 ls []) := by
                intro ls hl
                have C148 : ∀ ls : Array Slot, lv_has ls 13 [(11, .int ((og f n p0 d t) i - (og f n p0 d t) (i - 1))), (10, .int (nI i)), (9, .int (sp9)), (8, .int (lvl (og f n p0 d t) i).1), (7, .int (lvl (og f n p0 d t) (i + 1)).2), (6, .int (fstU (BP (og f n p0 d t)) (i + 1))), (5, .int (nI (cntU (BP (og f n p0 d t)) (i + 1)))), (4, .int w), (3, .int t), (2, .int d), (1, .int (nI p0)), (0, .ref (gad G 32))] → W p l e ({ frames := 6, cells := 0, slots := 0, locals := 142 } : Room) s m (([.ref (gad G 32), .int (nI p0), .int d, .int t, .int w] : List Value).toArray) below meth cd H locs 0 0 (MQ below (va_Qi (fun r (c9 : Nat → va_E) => r = spBends f n (nI p0) d t w ∧ ∃ h8 s8 : Int32, c9 = va_up c 32 (.inr (9, [.ref (gad G 33), .ref (gad G 34), .ref (gad G 35), .int (nI n), .int (nI n1), .int z, .int (h8), .int (s8), .ref (gad G 36), .ref (gad G 37), .int (nI rn), .ref (gad G 38), .int (nI tn), .int fr, .int tto, .int tk, .int wo, .ref (gad G 39), .ref (gad G 40), .ref (gad G 41), .ref (gad G 42), .ref (gad G 43), .ref (gad G 44), .int (nI n2), .int (nI qn), .int iz, .int (bi im)]))) (fun c9 t => Hw G c9 t t.heap) (gA G)) ([.ref (gad G 32), .int (nI p0), .int d, .int t, .int w] : List Value).toArray s 0 0 (gA G)) (F0 m 148 ls []) := by
                  intro ls hl
                  have C164 : ∀ ls : Array Slot, lv_has ls 13 [(11, .int ((og f n p0 d t) i - (og f n p0 d t) (i - 1))), (10, .int (nI i)), (9, .int (sp9)), (8, .int (lvl (og f n p0 d t) (i + 1)).1), (7, .int (lvl (og f n p0 d t) (i + 1)).2), (6, .int (fstU (BP (og f n p0 d t)) (i + 1))), (5, .int (nI (cntU (BP (og f n p0 d t)) (i + 1)))), (4, .int w), (3, .int t), (2, .int d), (1, .int (nI p0)), (0, .ref (gad G 32))] → W p l e ({ frames := 6, cells := 0, slots := 0, locals := 142 } : Room) s m (([.ref (gad G 32), .int (nI p0), .int d, .int t, .int w] : List Value).toArray) below meth cd H locs 0 0 (MQ below (va_Qi (fun r (c9 : Nat → va_E) => r = spBends f n (nI p0) d t w ∧ ∃ h8 s8 : Int32, c9 = va_up c 32 (.inr (9, [.ref (gad G 33), .ref (gad G 34), .ref (gad G 35), .int (nI n), .int (nI n1), .int z, .int (h8), .int (s8), .ref (gad G 36), .ref (gad G 37), .int (nI rn), .ref (gad G 38), .int (nI tn), .int fr, .int tto, .int tk, .int wo, .ref (gad G 39), .ref (gad G 40), .ref (gad G 41), .ref (gad G 42), .ref (gad G 43), .ref (gad G 44), .int (nI n2), .int (nI qn), .int iz, .int (bi im)]))) (fun c9 t => Hw G c9 t t.heap) (gA G)) ([.ref (gad G 32), .int (nI p0), .int d, .int t, .int w] : List Value).toArray s 0 0 (gA G)) (F0 m 164 ls []) := by
                    intro ls hl
                    refine lv_iload hx hb dX11_bends_164 (lv_at hl 0 rfl) ?_
                    refine lv_istore (lv' := [(9, _), (11, _), (10, _), (8, _), (7, _), (6, _), (5, _), (4, _), (3, _), (2, _), (1, _), (0, _)]) hx hb dX11_bends_166 hl (by decide) rfl (fun ls hl => ?_)
                    refine lv_iinc (v := nI (i + 1)) (lv' := [(10, _), (9, _), (11, _), (8, _), (7, _), (6, _), (5, _), (4, _), (3, _), (2, _), (1, _), (0, _)]) hx hb dX11_bends_168 hl (k := 2) rfl (inc1 i) (by decide) rfl (fun ls hl => ?_)
                    refine lv_goto (tgt := 40) hx hb dX11_bends_171 (by decide) ?_
                    exact ih (i + 1) _ _ _ (by omega) (by omega) (Or.inr ⟨by omega, rfl⟩) _ H locs (by rw [ec72, ec58, e0, up_up, up_up]) hw hS ls (lv_sub hl [0, 1, 3, 4, 5, 6, 7, 8, 9, 10, 11] rfl)
                  refine lv_iload hx hb dX11_bends_148 (lv_at hl 4 rfl) ?_
                  refine lv_iload hx hb dX11_bends_150 (lv_at hl 3 rfl) ?_
                  refine lv_icmp_le (tgt := 160) hx hb dX11_bends_152 (by decide) (fun c152 => ?_) (fun c152 => ?_)
                  · refine lv_iload hx hb dX11_bends_160 (lv_at hl 3 rfl) ?_
                    refine tp (y := (lvl (og f n p0 d t) (i + 1)).1) (by rw [lvlR hi, if_neg (Int32.not_lt.mpr c152)]) ?_
                    refine lv_istore (lv' := [(8, _), (11, _), (10, _), (9, _), (7, _), (6, _), (5, _), (4, _), (3, _), (2, _), (1, _), (0, _)]) hx hb dX11_bends_162 hl (by decide) rfl (fun ls hl => ?_)
                    exact C164 ls (lv_sub hl [1, 2, 3, 0, 4, 5, 6, 7, 8, 9, 10, 11] rfl)
                  · skip
                    refine lv_iload hx hb dX11_bends_155 (lv_at hl 4 rfl) ?_
                    refine lv_goto (tgt := 162) hx hb dX11_bends_157 (by decide) ?_
                    refine tp (y := (lvl (og f n p0 d t) (i + 1)).1) (by rw [lvlR hi, if_pos (Int32.not_le.mp c152)]) ?_
                    refine lv_istore (lv' := [(8, _), (11, _), (10, _), (9, _), (7, _), (6, _), (5, _), (4, _), (3, _), (2, _), (1, _), (0, _)]) hx hb dX11_bends_162 hl (by decide) rfl (fun ls hl => ?_)
                    exact C164 ls (lv_sub hl [1, 2, 3, 0, 4, 5, 6, 7, 8, 9, 10, 11] rfl)
                refine lv_iload hx hb dX11_bends_133 (lv_at hl 0 rfl) ?_
                refine lv_if_ne (tgt := 145) hx hb dX11_bends_135 (by decide) (fun c135 => ?_) (fun c135 => ?_)
                · refine lv_iconst (v := 1) hx hb dX11_bends_145 (by decide) ?_
                  refine tp (y := (lvl (og f n p0 d t) (i + 1)).2) (by rw [lvl_s _ hi, JPt2 hi c135]; rfl) ?_
                  refine lv_istore (lv' := [(7, _), (11, _), (10, _), (9, _), (8, _), (6, _), (5, _), (4, _), (3, _), (2, _), (1, _), (0, _)]) hx hb dX11_bends_146 hl (by decide) rfl (fun ls hl => ?_)
                  exact C148 ls (lv_sub hl [1, 2, 3, 4, 0, 5, 6, 7, 8, 9, 10, 11] rfl)
                · refine lv_iload hx hb dX11_bends_138 (lv_at hl 4 rfl) ?_
                  refine lv_iconst (v := 1) hx hb dX11_bends_140 (by decide) ?_
                  refine lv_iadd hx hb dX11_bends_141 ?_
                  refine lv_goto (tgt := 146) hx hb dX11_bends_142 (by decide) ?_
                  refine tp (y := (lvl (og f n p0 d t) (i + 1)).2) (by rw [lvl_s _ hi, JPf2 c135]; rfl) ?_
                  refine lv_istore (lv' := [(7, _), (11, _), (10, _), (9, _), (8, _), (6, _), (5, _), (4, _), (3, _), (2, _), (1, _), (0, _)]) hx hb dX11_bends_146 hl (by decide) rfl (fun ls hl => ?_)
                  exact C148 ls (lv_sub hl [1, 2, 3, 4, 0, 5, 6, 7, 8, 9, 10, 11] rfl)
              refine lv_iload hx hb dX11_bends_113 (lv_at hl 6 rfl) ?_
              refine lv_iconst (v := (-1)) hx hb dX11_bends_115 (by decide) ?_
              refine lv_icmp_ne (tgt := 129) hx hb dX11_bends_116 (by decide) (fun c116 => ?_) (fun c116 => ?_)
              · refine lv_iload hx hb dX11_bends_129 (lv_at hl 6 rfl) ?_
                refine tp (y := fstU (BP (og f n p0 d t)) (i + 1)) (by rw [fstU]; simp [c116]) ?_
                refine lv_istore (lv' := [(6, _), (12, _), (11, _), (10, _), (9, _), (8, _), (7, _), (5, _), (4, _), (3, _), (2, _), (1, _), (0, _)]) hx hb dX11_bends_131 hl (by decide) rfl (fun ls hl => ?_)
                exact C133 ls (lv_sub hl [2, 3, 4, 5, 6, 0, 7, 8, 9, 10, 11, 12] rfl)
              · refine lv_iload hx hb dX11_bends_119 (lv_at hl 0 rfl) ?_
                refine zb_eq (tgt := 129) hx hb dX11_bends_121 (by decide) (fun c121 => ?_) (fun c121 => ?_)
                · refine lv_iload hx hb dX11_bends_129 (lv_at hl 6 rfl) ?_
                  refine tp (y := fstU (BP (og f n p0 d t)) (i + 1)) (by rw [fstU, c121]; simp [c116]) ?_
                  refine lv_istore (lv' := [(6, _), (12, _), (11, _), (10, _), (9, _), (8, _), (7, _), (5, _), (4, _), (3, _), (2, _), (1, _), (0, _)]) hx hb dX11_bends_131 hl (by decide) rfl (fun ls hl => ?_)
                  exact C133 ls (lv_sub hl [2, 3, 4, 5, 6, 0, 7, 8, 9, 10, 11, 12] rfl)
                · refine lv_iload hx hb dX11_bends_124 (lv_at hl 2 rfl) ?_
                  refine lv_goto (tgt := 131) hx hb dX11_bends_126 (by decide) ?_
                  refine tp (y := fstU (BP (og f n p0 d t)) (i + 1)) (by rw [fstU, c121]; simp [c116]) ?_
                  refine lv_istore (lv' := [(6, _), (12, _), (11, _), (10, _), (9, _), (8, _), (7, _), (5, _), (4, _), (3, _), (2, _), (1, _), (0, _)]) hx hb dX11_bends_131 hl (by decide) rfl (fun ls hl => ?_)
                  exact C133 ls (lv_sub hl [2, 3, 4, 5, 6, 0, 7, 8, 9, 10, 11, 12] rfl)
            refine lv_iload hx hb dX11_bends_98 (lv_at hl 7 rfl) ?_
            refine lv_iload hx hb dX11_bends_100 (lv_at hl 0 rfl) ?_
            refine zb_eq (tgt := 109) hx hb dX11_bends_102 (by decide) (fun c102 => ?_) (fun c102 => ?_)
            · refine lv_iconst (v := 0) hx hb dX11_bends_109 (by decide) ?_
              refine lv_iadd hx hb dX11_bends_110 ?_
              refine tp (y := nI (cntU (BP (og f n p0 d t)) (i + 1))) (by rw [cnt_n c102]; exact Int32.add_zero _) ?_
              refine lv_istore (lv' := [(5, _), (12, _), (11, _), (10, _), (9, _), (8, _), (7, _), (6, _), (4, _), (3, _), (2, _), (1, _), (0, _)]) hx hb dX11_bends_111 hl (by decide) rfl (fun ls hl => ?_)
              exact C113 ls (lv_sub hl [1, 2, 3, 4, 5, 6, 7, 0, 8, 9, 10, 11, 12] rfl)
            · skip
              refine lv_iconst (v := 1) hx hb dX11_bends_105 (by decide) ?_
              refine lv_goto (tgt := 110) hx hb dX11_bends_106 (by decide) ?_
              refine lv_iadd hx hb dX11_bends_110 ?_
              refine tp (y := nI (cntU (BP (og f n p0 d t)) (i + 1))) (cnt_s c102) ?_
              refine lv_istore (lv' := [(5, _), (12, _), (11, _), (10, _), (9, _), (8, _), (7, _), (6, _), (4, _), (3, _), (2, _), (1, _), (0, _)]) hx hb dX11_bends_111 hl (by decide) rfl (fun ls hl => ?_)
              exact C113 ls (lv_sub hl [1, 2, 3, 4, 5, 6, 7, 0, 8, 9, 10, 11, 12] rfl)
          refine lv_iload hx hb dX11_bends_78 (lv_at hl 1 rfl) ?_
          refine lv_iconst (v := 1) hx hb dX11_bends_80 (by decide) ?_
          refine lv_icmp_le (tgt := 95) hx hb dX11_bends_81 (by decide) (fun c81 => ?_) (fun c81 => ?_)
          · refine lv_iconst (v := 0) hx hb dX11_bends_95 (by decide) ?_
            refine tp (y := bi (BP (og f n p0 d t) i)) (by rw [BPf hst (Or.inl c81) (by omega)]; rfl) ?_
            refine lv_istore (lv' := [(12, _), (11, _), (10, _), (9, _), (8, _), (7, _), (6, _), (5, _), (4, _), (3, _), (2, _), (1, _), (0, _)]) hx hb dX11_bends_96 hl (by decide) rfl (fun ls hl => ?_)
            exact C98 ls (lv_sub hl [0, 1, 2, 3, 4, 5, 6, 7, 8, 9, 10, 11, 12] rfl)
          · refine lv_iload hx hb dX11_bends_84 (lv_at hl 0 rfl) ?_
            refine lv_iload hx hb dX11_bends_86 (lv_at hl 2 rfl) ?_
            refine lv_icmp_eq (tgt := 95) hx hb dX11_bends_88 (by decide) (fun c88 => ?_) (fun c88 => ?_)
            · refine lv_iconst (v := 0) hx hb dX11_bends_95 (by decide) ?_
              refine tp (y := bi (BP (og f n p0 d t) i)) (by rw [BPf hst (Or.inr c88) (by omega)]; rfl) ?_
              refine lv_istore (lv' := [(12, _), (11, _), (10, _), (9, _), (8, _), (7, _), (6, _), (5, _), (4, _), (3, _), (2, _), (1, _), (0, _)]) hx hb dX11_bends_96 hl (by decide) rfl (fun ls hl => ?_)
              exact C98 ls (lv_sub hl [0, 1, 2, 3, 4, 5, 6, 7, 8, 9, 10, 11, 12] rfl)
            · refine lv_iconst (v := 1) hx hb dX11_bends_91 (by decide) ?_
              refine lv_goto (tgt := 96) hx hb dX11_bends_92 (by decide) ?_
              refine tp (y := bi (BP (og f n p0 d t) i)) (by rw [BPt hst c81 c88 (by omega)]; rfl) ?_
              refine lv_istore (lv' := [(12, _), (11, _), (10, _), (9, _), (8, _), (7, _), (6, _), (5, _), (4, _), (3, _), (2, _), (1, _), (0, _)]) hx hb dX11_bends_96 hl (by decide) rfl (fun ls hl => ?_)
              exact C98 ls (lv_sub hl [0, 1, 2, 3, 4, 5, 6, 7, 8, 9, 10, 11, 12] rfl)
      exact L40 (szN t - 1) 1 0 hd sd (by omega) (by omega) (Or.inl ⟨rfl, rfl⟩) _ H locs (up_id o1).symm hw hS ls (lv_sub hl [0, 1, 2, 3, 4, 5, 10, 9, 8, 7, 6] rfl)
    · refine lv_bipush (v := (-2)) hx hb dX11_bends_19 (by decide) ?_
      exact re_Q hx hb hr hlocks (rfl) hw hS dX11_bends_21 (⟨by rw [spBends, c6]; obtain ⟨y0, y1, y2⟩ := wn2_f c16; simp [y0, y1, y2], ⟨hd, sd, (up_id o1).symm⟩⟩)
set_option maxHeartbeats 4000000 in
set_option maxRecDepth 100000 in
theorem k_X11_touches (l : Launch) {G : GT} {c : Nat → va_E} {n n1 rn tn n2 qn : Nat} {z hd sd fr tto tk wo iz : Int32} {im : Bool} (o1 : c 32 = .inr (9, [.ref (gad G 33), .ref (gad G 34), .ref (gad G 35), .int (nI n), .int (nI n1), .int z, .int hd, .int sd, .ref (gad G 36), .ref (gad G 37), .int (nI rn), .ref (gad G 38), .int (nI tn), .int fr, .int tto, .int tk, .int wo, .ref (gad G 39), .ref (gad G 40), .ref (gad G 41), .ref (gad G 42), .ref (gad G 43), .ref (gad G 44), .int (nI n2), .int (nI qn), .int iz, .int (bi im)])) {f : Nat → Int32} (a1 : c 33 = .inl (gI G, 132, .inl f)) (hn : n ≤ 12) {f1 : Nat → Int32} (a2 : c 34 = .inl (gI G, 132, .inl f1)) (hn1 : n1 ≤ 12) {a d t w : Int32} (hI : cI f n) (hI1 : cI f1 n1) : Met l yX11_touches (wv yX11_touches cX11_touches 11 (some .int)) ({ frames := 7, cells := 0, slots := 0, locals := 164 } : Room) (va_Pc [.ref (gad G 32), .int a, .int d, .int t, .int w] (fun U => Hw G c U U.heap)) (va_Qi (fun r (c9 : Nat → va_E) => r = spTouches f n f1 n1 a d t w ∧ ∃ h8 s8 : Int32, c9 = va_up c 32 (.inr (9, [.ref (gad G 33), .ref (gad G 34), .ref (gad G 35), .int (nI n), .int (nI n1), .int z, .int (h8), .int (s8), .ref (gad G 36), .ref (gad G 37), .int (nI rn), .ref (gad G 38), .int (nI tn), .int fr, .int tto, .int tk, .int wo, .ref (gad G 39), .ref (gad G 40), .ref (gad G 41), .ref (gad G 42), .ref (gad G 43), .ref (gad G 44), .int (nI n2), .int (nI qn), .int iz, .int (bi im)]))) (fun c9 t => Hw G c9 t t.heap) (gA G)) 0 0 (gA G) := by
  refine en (by decide +kernel) (by first | exact Nat.le_of_ble_eq_true rfl | decide) ?_
  intro p e s m below meth cd ls hx hb hr hml hown hts hlocks hnm hw hl
  have hl : lv_has ls 11 [(0, .ref (gad G 32)), (1, .int a), (2, .int d), (3, .int t), (4, .int w)] := hl
  have hX : Sw G s s.heap := hw.2.2.2.2.2
  have hS : va_S (gA G) s.heap s.heap [] := va_S.rf
  obtain ⟨H, hH⟩ : ∃ wz9, wz9 = s.heap := ⟨_, rfl⟩
  obtain ⟨locs, hlocs⟩ : ∃ wz9 : List Loc, wz9 = [] := ⟨_, rfl⟩
  have hw : Hw G c s H := by rw [hH]; exact hw
  have hS : va_S (gA G) s.heap H locs := by rw [hH, hlocs]; exact hS
  suffices hgo : W p l e ({ frames := 7, cells := 0, slots := 0, locals := 164 } : Room) s m (([.ref (gad G 32), .int a, .int d, .int t, .int w] : List Value).toArray) below meth cd H locs 0 0 (MQ below (va_Qi (fun r (c9 : Nat → va_E) => r = spTouches f n f1 n1 a d t w ∧ ∃ h8 s8 : Int32, c9 = va_up c 32 (.inr (9, [.ref (gad G 33), .ref (gad G 34), .ref (gad G 35), .int (nI n), .int (nI n1), .int z, .int (h8), .int (s8), .ref (gad G 36), .ref (gad G 37), .int (nI rn), .ref (gad G 38), .int (nI tn), .int fr, .int tto, .int tk, .int wo, .ref (gad G 39), .ref (gad G 40), .ref (gad G 41), .ref (gad G 42), .ref (gad G 43), .ref (gad G 44), .int (nI n2), .int (nI qn), .int iz, .int (bi im)]))) (fun c9 t => Hw G c9 t t.heap) (gA G)) ([.ref (gad G 32), .int a, .int d, .int t, .int w] : List Value).toArray s 0 0 (gA G)) (F0 m 0 ls []) by rw [hH, hlocs] at hgo; exact hgo
  refine lv_iload_n hx hb dX11_touches_0 rfl (lv_at hl 1 rfl) ?_
  refine lv_iload_n hx hb dX11_touches_1 rfl (lv_at hl 2 rfl) ?_
  refine lv_iload_n hx hb dX11_touches_2 rfl (lv_at hl 3 rfl) ?_
  refine cSe (rST (As := [_, _, _]) ⟨hx, hb, hml, hown, hts⟩ (k_X11_isAlong l ) (cv_X11_isAlong hts tw_1098 rfl rfl ⟨Nat.le_of_ble_eq_true rfl, Nat.le_of_ble_eq_true rfl⟩) rfl hl.1 rfl (by first | exact Nat.le_of_ble_eq_true rfl | decide) dX11_touches_3 ⟨Nat.zero_le _, Nat.zero_le _⟩) ?_
  refine zb_eq (tgt := 19) hx hb dX11_touches_6 (by decide) (fun c6 => ?_) (fun c6 => ?_)
  · refine lv_bipush (v := (-2)) hx hb dX11_touches_19 (by decide) ?_
    exact re_Q hx hb hr hlocks (rfl) hw hS dX11_touches_21 (⟨by rw [spTouches, c6]; rfl, ⟨hd, sd, (up_id o1).symm⟩⟩)
  · refine lv_iload hx hb dX11_touches_9 (lv_at hl 4 rfl) ?_
    refine lv_iconst (v := 0) hx hb dX11_touches_11 (by decide) ?_
    refine lv_iconst (v := 3) hx hb dX11_touches_12 (by decide) ?_
    refine cSe (rST (As := [_, _, _]) ⟨hx, hb, hml, hown, hts⟩ (k_X11_in l ) (cv_X11_in hts tw_987 rfl rfl ⟨Nat.le_of_ble_eq_true rfl, Nat.le_of_ble_eq_true rfl⟩) rfl hl.1 rfl (by first | exact Nat.le_of_ble_eq_true rfl | decide) dX11_touches_13 ⟨Nat.zero_le _, Nat.zero_le _⟩) ?_
    refine zb_ne (tgt := 22) hx hb dX11_touches_16 (by decide) (fun c16 => ?_) (fun c16 => ?_)
    · have hal := c6
      simp only [Bool.and_eq_true] at hal
      obtain ⟨⟨ha1, ha2⟩, ha3⟩ := hal
      obtain ⟨p0, hp0, rfl⟩ := isP_t ha1
      have ht := isSh_t ha3
      have hsz := sz_le ht
      have hszm := szN_m ht
      have hdf : ∀ v, v < szN t → dfb ((tg f n f1 n1 p0 d t) v) := fun v hv => df_bd (ocm_bd hn hI (wth_lt hp0 ht hv)) (ocm_bd hn1 hI1 (wth_lt hp0 ht hv))
      refine lv_iconst (v := 0) hx hb dX11_touches_22 (by decide) ?_
      refine lv_istore (lv' := [(5, _), (0, _), (1, _), (2, _), (3, _), (4, _)]) hx hb dX11_touches_23 hl (by decide) rfl (fun ls hl => ?_)
      refine lv_iconst (v := (-1)) hx hb dX11_touches_25 (by decide) ?_
      refine lv_istore (lv' := [(6, _), (5, _), (0, _), (1, _), (2, _), (3, _), (4, _)]) hx hb dX11_touches_26 hl (by decide) rfl (fun ls hl => ?_)
      refine lv_iconst (v := 0) hx hb dX11_touches_28 (by decide) ?_
      refine lv_istore (lv' := [(7, _), (6, _), (5, _), (0, _), (1, _), (2, _), (3, _), (4, _)]) hx hb dX11_touches_29 hl (by decide) rfl (fun ls hl => ?_)
      refine lv_iconst (v := 0) hx hb dX11_touches_31 (by decide) ?_
      refine lv_istore (lv' := [(8, _), (7, _), (6, _), (5, _), (0, _), (1, _), (2, _), (3, _), (4, _)]) hx hb dX11_touches_32 hl (by decide) rfl (fun ls hl => ?_)
      refine lv_iconst (v := 0) hx hb dX11_touches_34 (by decide) ?_
      refine lv_istore (lv' := [(9, _), (8, _), (7, _), (6, _), (5, _), (0, _), (1, _), (2, _), (3, _), (4, _)]) hx hb dX11_touches_35 hl (by decide) rfl (fun ls hl => ?_)
      have L37 : ∀ (N : Nat) (i : Nat) (h7 s7 : Int32), (i + N = szN t) → ∀ (c0 : Nat → va_E) (H : Heap) (locs : List Loc), (c0 = va_up c 32 (.inr (9, [.ref (gad G 33), .ref (gad G 34), .ref (gad G 35), .int (nI n), .int (nI n1), .int z, .int (h7), .int (s7), .ref (gad G 36), .ref (gad G 37), .int (nI rn), .ref (gad G 38), .int (nI tn), .int fr, .int tto, .int tk, .int wo, .ref (gad G 39), .ref (gad G 40), .ref (gad G 41), .ref (gad G 42), .ref (gad G 43), .ref (gad G 44), .int (nI n2), .int (nI qn), .int iz, .int (bi im)]))) → Hw G c0 s H → va_S (gA G) s.heap H locs → ∀ ls : Array Slot, lv_has ls 11 [(9, .int (nI i)), (8, .int (nI (cntU (fun v => decide ((tg f n f1 n1 p0 d t) v < 0)) i))), (7, .int (far (tg f n f1 n1 p0 d t) i)), (6, .int (fstU (fun v => decide ((tg f n f1 n1 p0 d t) v ≠ 0)) i)), (5, .int (nI (cntU (fun v => decide ((tg f n f1 n1 p0 d t) v ≠ 0)) i))), (4, .int w), (3, .int t), (2, .int d), (1, .int (nI p0)), (0, .ref (gad G 32))] → W p l e ({ frames := 7, cells := 0, slots := 0, locals := 164 } : Room) s m (([.ref (gad G 32), .int (nI p0), .int d, .int t, .int w] : List Value).toArray) below meth cd H locs 0 0 (MQ below (va_Qi (fun r (c9 : Nat → va_E) => r = spTouches f n f1 n1 (nI p0) d t w ∧ ∃ h8 s8 : Int32, c9 = va_up c 32 (.inr (9, [.ref (gad G 33), .ref (gad G 34), .ref (gad G 35), .int (nI n), .int (nI n1), .int z, .int (h8), .int (s8), .ref (gad G 36), .ref (gad G 37), .int (nI rn), .ref (gad G 38), .int (nI tn), .int fr, .int tto, .int tk, .int wo, .ref (gad G 39), .ref (gad G 40), .ref (gad G 41), .ref (gad G 42), .ref (gad G 43), .ref (gad G 44), .int (nI n2), .int (nI qn), .int iz, .int (bi im)]))) (fun c9 t => Hw G c9 t t.heap) (gA G)) ([.ref (gad G 32), .int (nI p0), .int d, .int t, .int w] : List Value).toArray s 0 0 (gA G)) (F0 m 37 ls []) := by
        intro N
        induction N with
        | zero =>
          intro i  h7 s7  hN c0 H locs e0 hw hS ls hl
          have hin : szN t = i := by omega
          refine lv_iload hx hb dX11_touches_37 (lv_at hl 0 rfl) ?_
          refine lv_iload_n hx hb dX11_touches_39 rfl (lv_at hl 6 rfl) ?_
          refine cSe (rST (As := [_]) ⟨hx, hb, hml, hown, hts⟩ (k_X11_sizeOf l ) (cv_X11_sizeOf hts tw_1040 rfl rfl ⟨Nat.le_of_ble_eq_true rfl, Nat.le_of_ble_eq_true rfl⟩) rfl hl.1 rfl (by first | exact Nat.le_of_ble_eq_true rfl | decide) dX11_touches_40 ⟨Nat.zero_le _, Nat.zero_le _⟩) ?_
          refine tp (y := nI (szN t)) hszm ?_
          refine lv_icmp_ge (tgt := 146) hx hb dX11_touches_43 (by decide) (fun c43 => ?_) (fun q => absurd (nI_le (by omega) (by omega)) q)
          refine lv_iload hx hb dX11_touches_146 (lv_at hl 5 rfl) ?_
          refine lv_if_ne (tgt := 156) hx hb dX11_touches_148 (by decide) (fun c148 => ?_) (fun c148 => ?_)
          · refine lv_iload hx hb dX11_touches_156 (lv_at hl 5 rfl) ?_
            refine lv_iconst (v := 1) hx hb dX11_touches_158 (by decide) ?_
            refine lv_icmp_ne (tgt := 167) hx hb dX11_touches_159 (by decide) (fun c159 => ?_) (fun c159 => ?_)
            · refine lv_iload hx hb dX11_touches_167 (lv_at hl 5 rfl) ?_
              refine lv_iconst (v := 2) hx hb dX11_touches_169 (by decide) ?_
              refine lv_icmp_ne (tgt := 178) hx hb dX11_touches_170 (by decide) (fun c170 => ?_) (fun c170 => ?_)
              · refine lv_iload hx hb dX11_touches_178 (lv_at hl 1 rfl) ?_
                exact re_Q hx hb hr hlocks (rfl) hw hS dX11_touches_180 (⟨by rw [spTouches, show (isP (nI p0) && isDy d && isSh t) = true from c6, pN_nI hp0, hin]; have hw4 := wn3_3 c16 c148 c159 c170; simp only [if_true]; rw [if_neg c148, if_neg c159, if_neg c170, if_pos hw4], _, _, e0⟩)
              · refine lv_iload hx hb dX11_touches_173 (lv_at hl 2 rfl) ?_
                refine lv_goto (tgt := 180) hx hb dX11_touches_175 (by decide) ?_
                exact re_Q hx hb hr hlocks (rfl) hw hS dX11_touches_180 (⟨by rw [spTouches, show (isP (nI p0) && isDy d && isSh t) = true from c6, pN_nI hp0, hin]; simp only [if_true]; rw [if_neg c148, if_neg c159, if_pos c170], _, _, e0⟩)
            · refine lv_iload hx hb dX11_touches_162 (lv_at hl 3 rfl) ?_
              refine lv_goto (tgt := 180) hx hb dX11_touches_164 (by decide) ?_
              exact re_Q hx hb hr hlocks (rfl) hw hS dX11_touches_180 (⟨by rw [spTouches, show (isP (nI p0) && isDy d && isSh t) = true from c6, pN_nI hp0, hin]; simp only [if_true]; rw [if_neg c148, if_pos c159], _, _, e0⟩)
          · refine lv_iload hx hb dX11_touches_151 (lv_at hl 4 rfl) ?_
            refine lv_goto (tgt := 180) hx hb dX11_touches_153 (by decide) ?_
            exact re_Q hx hb hr hlocks (rfl) hw hS dX11_touches_180 (⟨by rw [spTouches, show (isP (nI p0) && isDy d && isSh t) = true from c6, pN_nI hp0, hin]; simp only [if_true]; rw [if_pos c148], _, _, e0⟩)
        | succ N ih =>
          intro i  h7 s7  hN c0 H locs e0 hw hS ls hl
          have o1 : c0 32 = .inr (9, [.ref (gad G 33), .ref (gad G 34), .ref (gad G 35), .int (nI n), .int (nI n1), .int z, .int (h7), .int (s7), .ref (gad G 36), .ref (gad G 37), .int (nI rn), .ref (gad G 38), .int (nI tn), .int fr, .int tto, .int tk, .int wo, .ref (gad G 39), .ref (gad G 40), .ref (gad G 41), .ref (gad G 42), .ref (gad G 43), .ref (gad G 44), .int (nI n2), .int (nI qn), .int iz, .int (bi im)]) := by rw [e0]; exact vu_s
          have a1 : c0 33 = .inl (gI G, 132, .inl f) := by rw [e0]; exact vu_e (by decide) a1
          have a2 : c0 34 = .inl (gI G, 132, .inl f1) := by rw [e0]; exact vu_e (by decide) a2
          refine lv_iload hx hb dX11_touches_37 (lv_at hl 0 rfl) ?_
          refine lv_iload_n hx hb dX11_touches_39 rfl (lv_at hl 6 rfl) ?_
          refine cSe (rST (As := [_]) ⟨hx, hb, hml, hown, hts⟩ (k_X11_sizeOf l ) (cv_X11_sizeOf hts tw_1040 rfl rfl ⟨Nat.le_of_ble_eq_true rfl, Nat.le_of_ble_eq_true rfl⟩) rfl hl.1 rfl (by first | exact Nat.le_of_ble_eq_true rfl | decide) dX11_touches_40 ⟨Nat.zero_le _, Nat.zero_le _⟩) ?_
          refine tp (y := nI (szN t)) hszm ?_
          refine lv_icmp_ge (tgt := 146) hx hb dX11_touches_43 (by decide) (fun q => absurd q (nI_ge (by omega) (by omega))) (fun c43 => ?_)
          refine lv_aload_n hx hb dX11_touches_46 rfl (lv_at hl 9 rfl) ?_
          refine lv_iload_n hx hb dX11_touches_47 rfl (lv_at hl 8 rfl) ?_
          refine lv_iload_n hx hb dX11_touches_48 rfl (lv_at hl 6 rfl) ?_
          refine lv_iload hx hb dX11_touches_49 (lv_at hl 0 rfl) ?_
          refine cSe (rST (As := [_, _, _]) ⟨hx, hb, hml, hown, hts⟩ (k_X11_with l hp0 ht) (cv_X11_with hts tw_1101 rfl rfl ⟨Nat.le_of_ble_eq_true rfl, Nat.le_of_ble_eq_true rfl⟩) rfl hl.1 rfl (by first | exact Nat.le_of_ble_eq_true rfl | decide) dX11_touches_51 ⟨Nat.zero_le _, Nat.zero_le _⟩) ?_
          refine lv_iload_n hx hb dX11_touches_54 rfl (lv_at hl 7 rfl) ?_
          refine cQi (rV (As := [_, _]) ⟨hx, hb, hml, hown, hts⟩ hw (k_X11_touchedBy l o1 a1 hn a2 hn1 (wth_lt hp0 ht (by omega)) hI hI1) (cv_X11_touchedBy hts tw_1166 rfl rfl ⟨Nat.le_of_ble_eq_true rfl, Nat.le_of_ble_eq_true rfl⟩) (by decide) o1 rfl rfl hl.1 rfl (by first | exact Nat.le_of_ble_eq_true rfl | decide) dX11_touches_55 ⟨Nat.zero_le _, Nat.zero_le _⟩) hw hS (fun r55 w1 H locs hp55 hw hS => ?_)
          obtain ⟨er55, ec55⟩ := hp55
          subst er55
          have o1_1 : w1 32 = .inr (9, [.ref (gad G 33), .ref (gad G 34), .ref (gad G 35), .int (nI n), .int (nI n1), .int z, .int (hdM f1 n1 (wthN p0 t i) d), .int (stM f1 n1 (wthN p0 t i) d), .ref (gad G 36), .ref (gad G 37), .int (nI rn), .ref (gad G 38), .int (nI tn), .int fr, .int tto, .int tk, .int wo, .ref (gad G 39), .ref (gad G 40), .ref (gad G 41), .ref (gad G 42), .ref (gad G 43), .ref (gad G 44), .int (nI n2), .int (nI qn), .int iz, .int (bi im)]) := by rw [ec55]; exact vu_s
          have a1_1 : w1 33 = .inl (gI G, 132, .inl f) := by rw [ec55]; exact (vu_e (by decide) a1)
          have a2_1 : w1 34 = .inl (gI G, 132, .inl f1) := by rw [ec55]; exact (vu_e (by decide) a2)
          refine tp (y := (tg f n f1 n1 p0 d t) i) rfl ?_
          refine lv_istore (lv' := [(10, _), (9, _), (8, _), (7, _), (6, _), (5, _), (4, _), (3, _), (2, _), (1, _), (0, _)]) hx hb dX11_touches_58 hl (by decide) rfl (fun ls hl => ?_)
          have C75 : ∀ ls : Array Slot, lv_has ls 11 [(10, .int ((tg f n f1 n1 p0 d t) i)), (9, .int (nI i)), (8, .int (nI (cntU (fun v => decide ((tg f n f1 n1 p0 d t) v < 0)) i))), (7, .int (far (tg f n f1 n1 p0 d t) i)), (6, .int (fstU (fun v => decide ((tg f n f1 n1 p0 d t) v ≠ 0)) i)), (5, .int (nI (cntU (fun v => decide ((tg f n f1 n1 p0 d t) v ≠ 0)) (i + 1)))), (4, .int w), (3, .int t), (2, .int d), (1, .int (nI p0)), (0, .ref (gad G 32))] → W p l e ({ frames := 7, cells := 0, slots := 0, locals := 164 } : Room) s m (([.ref (gad G 32), .int (nI p0), .int d, .int t, .int w] : List Value).toArray) below meth cd H locs 0 0 (MQ below (va_Qi (fun r (c9 : Nat → va_E) => r = spTouches f n f1 n1 (nI p0) d t w ∧ ∃ h8 s8 : Int32, c9 = va_up c 32 (.inr (9, [.ref (gad G 33), .ref (gad G 34), .ref (gad G 35), .int (nI n), .int (nI n1), .int z, .int (h8), .int (s8), .ref (gad G 36), .ref (gad G 37), .int (nI rn), .ref (gad G 38), .int (nI tn), .int fr, .int tto, .int tk, .int wo, .ref (gad G 39), .ref (gad G 40), .ref (gad G 41), .ref (gad G 42), .ref (gad G 43), .ref (gad G 44), .int (nI n2), .int (nI qn), .int iz, .int (bi im)]))) (fun c9 t => Hw G c9 t t.heap) (gA G)) ([.ref (gad G 32), .int (nI p0), .int d, .int t, .int w] : List Value).toArray s 0 0 (gA G)) (F0 m 75 ls []) := by
            intro ls hl
            have C95 : ∀ ls : Array Slot, lv_has ls 11 [(10, .int ((tg f n f1 n1 p0 d t) i)), (9, .int (nI i)), (8, .int (nI (cntU (fun v => decide ((tg f n f1 n1 p0 d t) v < 0)) i))), (7, .int (far (tg f n f1 n1 p0 d t) i)), (6, .int (fstU (fun v => decide ((tg f n f1 n1 p0 d t) v ≠ 0)) (i + 1))), (5, .int (nI (cntU (fun v => decide ((tg f n f1 n1 p0 d t) v ≠ 0)) (i + 1)))), (4, .int w), (3, .int t), (2, .int d), (1, .int (nI p0)), (0, .ref (gad G 32))] → W p l e ({ frames := 7, cells := 0, slots := 0, locals := 164 } : Room) s m (([.ref (gad G 32), .int (nI p0), .int d, .int t, .int w] : List Value).toArray) below meth cd H locs 0 0 (MQ below (va_Qi (fun r (c9 : Nat → va_E) => r = spTouches f n f1 n1 (nI p0) d t w ∧ ∃ h8 s8 : Int32, c9 = va_up c 32 (.inr (9, [.ref (gad G 33), .ref (gad G 34), .ref (gad G 35), .int (nI n), .int (nI n1), .int z, .int (h8), .int (s8), .ref (gad G 36), .ref (gad G 37), .int (nI rn), .ref (gad G 38), .int (nI tn), .int fr, .int tto, .int tk, .int wo, .ref (gad G 39), .ref (gad G 40), .ref (gad G 41), .ref (gad G 42), .ref (gad G 43), .ref (gad G 44), .int (nI n2), .int (nI qn), .int iz, .int (bi im)]))) (fun c9 t => Hw G c9 t t.heap) (gA G)) ([.ref (gad G 32), .int (nI p0), .int d, .int t, .int w] : List Value).toArray s 0 0 (gA G)) (F0 m 95 ls []) := by
              intro ls hl
              have C125 : ∀ ls : Array Slot, lv_has ls 11 [(10, .int ((tg f n f1 n1 p0 d t) i)), (9, .int (nI i)), (8, .int (nI (cntU (fun v => decide ((tg f n f1 n1 p0 d t) v < 0)) i))), (7, .int (far (tg f n f1 n1 p0 d t) (i + 1))), (6, .int (fstU (fun v => decide ((tg f n f1 n1 p0 d t) v ≠ 0)) (i + 1))), (5, .int (nI (cntU (fun v => decide ((tg f n f1 n1 p0 d t) v ≠ 0)) (i + 1)))), (4, .int w), (3, .int t), (2, .int d), (1, .int (nI p0)), (0, .ref (gad G 32))] → W p l e ({ frames := 7, cells := 0, slots := 0, locals := 164 } : Room) s m (([.ref (gad G 32), .int (nI p0), .int d, .int t, .int w] : List Value).toArray) below meth cd H locs 0 0 (MQ below (va_Qi (fun r (c9 : Nat → va_E) => r = spTouches f n f1 n1 (nI p0) d t w ∧ ∃ h8 s8 : Int32, c9 = va_up c 32 (.inr (9, [.ref (gad G 33), .ref (gad G 34), .ref (gad G 35), .int (nI n), .int (nI n1), .int z, .int (h8), .int (s8), .ref (gad G 36), .ref (gad G 37), .int (nI rn), .ref (gad G 38), .int (nI tn), .int fr, .int tto, .int tk, .int wo, .ref (gad G 39), .ref (gad G 40), .ref (gad G 41), .ref (gad G 42), .ref (gad G 43), .ref (gad G 44), .int (nI n2), .int (nI qn), .int iz, .int (bi im)]))) (fun c9 t => Hw G c9 t t.heap) (gA G)) ([.ref (gad G 32), .int (nI p0), .int d, .int t, .int w] : List Value).toArray s 0 0 (gA G)) (F0 m 125 ls []) := by
                intro ls hl
                have C140 : ∀ ls : Array Slot, lv_has ls 11 [(9, .int (nI i)), (8, .int (nI (cntU (fun v => decide ((tg f n f1 n1 p0 d t) v < 0)) (i + 1)))), (7, .int (far (tg f n f1 n1 p0 d t) (i + 1))), (6, .int (fstU (fun v => decide ((tg f n f1 n1 p0 d t) v ≠ 0)) (i + 1))), (5, .int (nI (cntU (fun v => decide ((tg f n f1 n1 p0 d t) v ≠ 0)) (i + 1)))), (4, .int w), (3, .int t), (2, .int d), (1, .int (nI p0)), (0, .ref (gad G 32))] → W p l e ({ frames := 7, cells := 0, slots := 0, locals := 164 } : Room) s m (([.ref (gad G 32), .int (nI p0), .int d, .int t, .int w] : List Value).toArray) below meth cd H locs 0 0 (MQ below (va_Qi (fun r (c9 : Nat → va_E) => r = spTouches f n f1 n1 (nI p0) d t w ∧ ∃ h8 s8 : Int32, c9 = va_up c 32 (.inr (9, [.ref (gad G 33), .ref (gad G 34), .ref (gad G 35), .int (nI n), .int (nI n1), .int z, .int (h8), .int (s8), .ref (gad G 36), .ref (gad G 37), .int (nI rn), .ref (gad G 38), .int (nI tn), .int fr, .int tto, .int tk, .int wo, .ref (gad G 39), .ref (gad G 40), .ref (gad G 41), .ref (gad G 42), .ref (gad G 43), .ref (gad G 44), .int (nI n2), .int (nI qn), .int iz, .int (bi im)]))) (fun c9 t => Hw G c9 t t.heap) (gA G)) ([.ref (gad G 32), .int (nI p0), .int d, .int t, .int w] : List Value).toArray s 0 0 (gA G)) (F0 m 140 ls []) := by
                  intro ls hl
                  refine lv_iinc (v := nI (i + 1)) (lv' := [(9, _), (8, _), (7, _), (6, _), (5, _), (4, _), (3, _), (2, _), (1, _), (0, _)]) hx hb dX11_touches_140 hl (k := 0) rfl (inc1 i) (by decide) rfl (fun ls hl => ?_)
                  refine lv_goto (tgt := 37) hx hb dX11_touches_143 (by decide) ?_
                  exact ih (i + 1) _ _ (by omega) _ H locs (by rw [ec55, e0, up_up]) hw hS ls (lv_sub hl [0, 1, 2, 3, 4, 5, 6, 7, 8, 9] rfl)
                refine lv_iload hx hb dX11_touches_125 (lv_at hl 2 rfl) ?_
                refine lv_iload hx hb dX11_touches_127 (lv_at hl 0 rfl) ?_
                refine lv_if_ge (tgt := 136) hx hb dX11_touches_129 (by decide) (fun c129 => ?_) (fun c129 => ?_)
                · refine lv_iconst (v := 0) hx hb dX11_touches_136 (by decide) ?_
                  refine lv_iadd hx hb dX11_touches_137 ?_
                  refine tp (y := nI (cntU (fun v => decide ((tg f n f1 n1 p0 d t) v < 0)) (i + 1))) (by rw [cnt_n (P := (fun v => decide ((tg f n f1 n1 p0 d t) v < 0))) (by simp [Int32.not_lt.mpr c129])]; exact Int32.add_zero _) ?_
                  refine lv_istore (lv' := [(8, _), (10, _), (9, _), (7, _), (6, _), (5, _), (4, _), (3, _), (2, _), (1, _), (0, _)]) hx hb dX11_touches_138 hl (by decide) rfl (fun ls hl => ?_)
                  exact C140 ls (lv_sub hl [2, 0, 3, 4, 5, 6, 7, 8, 9, 10] rfl)
                · skip
                  refine lv_iconst (v := 1) hx hb dX11_touches_132 (by decide) ?_
                  refine lv_goto (tgt := 137) hx hb dX11_touches_133 (by decide) ?_
                  refine lv_iadd hx hb dX11_touches_137 ?_
                  refine tp (y := nI (cntU (fun v => decide ((tg f n f1 n1 p0 d t) v < 0)) (i + 1))) (cnt_s (P := (fun v => decide ((tg f n f1 n1 p0 d t) v < 0))) (by simp [Int32.not_le.mp c129])) ?_
                  refine lv_istore (lv' := [(8, _), (10, _), (9, _), (7, _), (6, _), (5, _), (4, _), (3, _), (2, _), (1, _), (0, _)]) hx hb dX11_touches_138 hl (by decide) rfl (fun ls hl => ?_)
                  exact C140 ls (lv_sub hl [2, 0, 3, 4, 5, 6, 7, 8, 9, 10] rfl)
              refine lv_iload hx hb dX11_touches_95 (lv_at hl 0 rfl) ?_
              refine lv_iload hx hb dX11_touches_97 (lv_at hl 3 rfl) ?_
              refine lv_icmp_le (tgt := 107) hx hb dX11_touches_99 (by decide) (fun c99 => ?_) (fun c99 => ?_)
              · refine lv_iload hx hb dX11_touches_107 (lv_at hl 0 rfl) ?_
                refine lv_ineg hx hb dX11_touches_109 ?_
                refine lv_iload hx hb dX11_touches_110 (lv_at hl 3 rfl) ?_
                refine lv_icmp_le (tgt := 121) hx hb dX11_touches_112 (by decide) (fun c112 => ?_) (fun c112 => ?_)
                · refine lv_iload hx hb dX11_touches_121 (lv_at hl 3 rfl) ?_
                  refine tp (y := far (tg f n f1 n1 p0 d t) (i + 1)) (by rw [far, far_s (hdf i (by omega)) (far_nn hdf i (by omega))]; rw [if_neg (Int32.not_lt.mpr c99), if_neg (Int32.not_lt.mpr c112)]) ?_
                  refine lv_istore (lv' := [(7, _), (10, _), (9, _), (8, _), (6, _), (5, _), (4, _), (3, _), (2, _), (1, _), (0, _)]) hx hb dX11_touches_123 hl (by decide) rfl (fun ls hl => ?_)
                  exact C125 ls (lv_sub hl [1, 2, 3, 0, 4, 5, 6, 7, 8, 9, 10] rfl)
                · skip
                  refine lv_iload hx hb dX11_touches_115 (lv_at hl 0 rfl) ?_
                  refine lv_ineg hx hb dX11_touches_117 ?_
                  refine lv_goto (tgt := 123) hx hb dX11_touches_118 (by decide) ?_
                  refine tp (y := far (tg f n f1 n1 p0 d t) (i + 1)) (by rw [far, far_s (hdf i (by omega)) (far_nn hdf i (by omega))]; rw [if_neg (Int32.not_lt.mpr c99), if_pos (Int32.not_le.mp c112)]) ?_
                  refine lv_istore (lv' := [(7, _), (10, _), (9, _), (8, _), (6, _), (5, _), (4, _), (3, _), (2, _), (1, _), (0, _)]) hx hb dX11_touches_123 hl (by decide) rfl (fun ls hl => ?_)
                  exact C125 ls (lv_sub hl [1, 2, 3, 0, 4, 5, 6, 7, 8, 9, 10] rfl)
              · skip
                refine lv_iload hx hb dX11_touches_102 (lv_at hl 0 rfl) ?_
                refine lv_goto (tgt := 123) hx hb dX11_touches_104 (by decide) ?_
                refine tp (y := far (tg f n f1 n1 p0 d t) (i + 1)) (by rw [far, far_s (hdf i (by omega)) (far_nn hdf i (by omega))]; rw [if_pos (Int32.not_le.mp c99)]) ?_
                refine lv_istore (lv' := [(7, _), (10, _), (9, _), (8, _), (6, _), (5, _), (4, _), (3, _), (2, _), (1, _), (0, _)]) hx hb dX11_touches_123 hl (by decide) rfl (fun ls hl => ?_)
                exact C125 ls (lv_sub hl [1, 2, 3, 0, 4, 5, 6, 7, 8, 9, 10] rfl)
            refine lv_iload hx hb dX11_touches_75 (lv_at hl 4 rfl) ?_
            refine lv_iconst (v := (-1)) hx hb dX11_touches_77 (by decide) ?_
            refine lv_icmp_ne (tgt := 91) hx hb dX11_touches_78 (by decide) (fun c78 => ?_) (fun c78 => ?_)
            · refine lv_iload hx hb dX11_touches_91 (lv_at hl 4 rfl) ?_
              refine tp (y := fstU (fun v => decide ((tg f n f1 n1 p0 d t) v ≠ 0)) (i + 1)) (fst_k c78) ?_
              refine lv_istore (lv' := [(6, _), (10, _), (9, _), (8, _), (7, _), (5, _), (4, _), (3, _), (2, _), (1, _), (0, _)]) hx hb dX11_touches_93 hl (by decide) rfl (fun ls hl => ?_)
              exact C95 ls (lv_sub hl [1, 2, 3, 4, 0, 5, 6, 7, 8, 9, 10] rfl)
            · refine lv_iload hx hb dX11_touches_81 (lv_at hl 0 rfl) ?_
              refine lv_if_eq (tgt := 91) hx hb dX11_touches_83 (by decide) (fun c83 => ?_) (fun c83 => ?_)
              · refine lv_iload hx hb dX11_touches_91 (lv_at hl 4 rfl) ?_
                refine tp (y := fstU (fun v => decide ((tg f n f1 n1 p0 d t) v ≠ 0)) (i + 1)) (fst_f (P := (fun v => decide ((tg f n f1 n1 p0 d t) v ≠ 0))) (by simp [c83])) ?_
                refine lv_istore (lv' := [(6, _), (10, _), (9, _), (8, _), (7, _), (5, _), (4, _), (3, _), (2, _), (1, _), (0, _)]) hx hb dX11_touches_93 hl (by decide) rfl (fun ls hl => ?_)
                exact C95 ls (lv_sub hl [1, 2, 3, 4, 0, 5, 6, 7, 8, 9, 10] rfl)
              · refine lv_iload hx hb dX11_touches_86 (lv_at hl 1 rfl) ?_
                refine lv_goto (tgt := 93) hx hb dX11_touches_88 (by decide) ?_
                refine tp (y := fstU (fun v => decide ((tg f n f1 n1 p0 d t) v ≠ 0)) (i + 1)) (fst_t (P := (fun v => decide ((tg f n f1 n1 p0 d t) v ≠ 0))) c78 (by simp [c83])) ?_
                refine lv_istore (lv' := [(6, _), (10, _), (9, _), (8, _), (7, _), (5, _), (4, _), (3, _), (2, _), (1, _), (0, _)]) hx hb dX11_touches_93 hl (by decide) rfl (fun ls hl => ?_)
                exact C95 ls (lv_sub hl [1, 2, 3, 4, 0, 5, 6, 7, 8, 9, 10] rfl)
          refine lv_iload hx hb dX11_touches_60 (lv_at hl 5 rfl) ?_
          refine lv_iload hx hb dX11_touches_62 (lv_at hl 0 rfl) ?_
          refine lv_if_ne (tgt := 71) hx hb dX11_touches_64 (by decide) (fun c64 => ?_) (fun c64 => ?_)
          · refine lv_iconst (v := 1) hx hb dX11_touches_71 (by decide) ?_
            refine lv_iadd hx hb dX11_touches_72 ?_
            refine tp (y := nI (cntU (fun v => decide ((tg f n f1 n1 p0 d t) v ≠ 0)) (i + 1))) (cnt_s (P := (fun v => decide ((tg f n f1 n1 p0 d t) v ≠ 0))) (by simp [c64])) ?_
            refine lv_istore (lv' := [(5, _), (10, _), (9, _), (8, _), (7, _), (6, _), (4, _), (3, _), (2, _), (1, _), (0, _)]) hx hb dX11_touches_73 hl (by decide) rfl (fun ls hl => ?_)
            exact C75 ls (lv_sub hl [1, 2, 3, 4, 5, 0, 6, 7, 8, 9, 10] rfl)
          · refine lv_iconst (v := 0) hx hb dX11_touches_67 (by decide) ?_
            refine lv_goto (tgt := 72) hx hb dX11_touches_68 (by decide) ?_
            refine lv_iadd hx hb dX11_touches_72 ?_
            refine tp (y := nI (cntU (fun v => decide ((tg f n f1 n1 p0 d t) v ≠ 0)) (i + 1))) (by rw [cnt_n (P := (fun v => decide ((tg f n f1 n1 p0 d t) v ≠ 0))) (by simp [c64])]; exact Int32.add_zero _) ?_
            refine lv_istore (lv' := [(5, _), (10, _), (9, _), (8, _), (7, _), (6, _), (4, _), (3, _), (2, _), (1, _), (0, _)]) hx hb dX11_touches_73 hl (by decide) rfl (fun ls hl => ?_)
            exact C75 ls (lv_sub hl [1, 2, 3, 4, 5, 0, 6, 7, 8, 9, 10] rfl)
      exact L37 (szN t) 0 hd sd (by omega) _ H locs (up_id o1).symm hw hS ls (lv_sub hl [0, 1, 2, 3, 4, 9, 8, 7, 6, 5] rfl)
    · refine lv_bipush (v := (-2)) hx hb dX11_touches_19 (by decide) ?_
      exact re_Q hx hb hr hlocks (rfl) hw hS dX11_touches_21 (⟨by rw [spTouches, c6]; obtain ⟨y0, y1, y2, y3⟩ := wn3_f c16; simp [y0, y1, y2, y3], ⟨hd, sd, (up_id o1).symm⟩⟩)
