theorem allU_t {P : Nat → Bool} {b : Bool} {i : Nat} : (b && allU P i && P i) = (b && allU P (i + 1)) := by rw [allU, Bool.and_assoc]
theorem anyU_s {P : Nat → Bool} {i : Nat} {x : Bool} (h : P i = x) : (anyU P i || x) = anyU P (i + 1) := by rw [anyU, h]
theorem bi_and {x : Bool} (h : x = false) : (0 : Int32) = bi x := by rw [h]; rfl
theorem bi_tt {x : Bool} (h : x = true) : (1 : Int32) = bi x := by rw [h]; rfl
theorem ixm40 (s i : Nat) : 40 * nI s + nI i = nI (s * 40 + i) := by
  show nI 40 * nI s + nI i = _
  rw [pk_mul, nI_add, Nat.mul_comm]
def itZ (it : Nat → Int32) (s i : Nat) : Nat → Int32 := fun q => if s * 40 ≤ q ∧ q < s * 40 + i then 0 else it q
theorem itZ_0 (it : Nat → Int32) (s : Nat) : itZ it s 0 = it := by funext q; unfold itZ; rw [if_neg (by omega)]
theorem itZ_s (it : Nat → Int32) (s i : Nat) : upd (itZ it s i) (s * 40 + i) 0 = itZ it s (i + 1) := by
  funext q
  unfold upd itZ
  by_cases h : q = s * 40 + i
  · rw [if_pos h, if_pos (by omega)]
  · rw [if_neg h]
    by_cases h2 : s * 40 ≤ q ∧ q < s * 40 + i
    · rw [if_pos h2, if_pos (by omega)]
    · rw [if_neg h2, if_neg (by omega)]
def itL (it : Nat → Int32) (so : Int32) (g : Nat → Int32) (s i : Nat) : Nat → Int32 := fun q => if s * 40 ≤ q ∧ q < s * 40 + i then (if so = 1 then (if 0 < g (q - s * 40) then 1 else 0) else g (q - s * 40)) else it q
theorem itL_0 (it : Nat → Int32) (so : Int32) (g : Nat → Int32) (s : Nat) : itL it so g s 0 = it := by funext q; unfold itL; rw [if_neg (by omega)]
theorem itL_s (it : Nat → Int32) (so : Int32) (g : Nat → Int32) (s i : Nat) : upd (itL it so g s i) (s * 40 + i) (if so = 1 then (if 0 < g i then 1 else 0) else g i) = itL it so g s (i + 1) := by
  funext q
  unfold upd itL
  by_cases h : q = s * 40 + i
  · rw [if_pos h, if_pos (show s * 40 ≤ q ∧ q < s * 40 + (i + 1) by omega), show q - s * 40 = i by omega]
  · rw [if_neg h]
    by_cases h2 : s * 40 ≤ q ∧ q < s * 40 + i
    · rw [if_pos h2, if_pos (show s * 40 ≤ q ∧ q < s * 40 + (i + 1) by omega)]
    · rw [if_neg h2, if_neg (show ¬ (s * 40 ≤ q ∧ q < s * 40 + (i + 1)) by omega)]
/-- the reference's copying, by one way or the other -/
def itC (it : Nat → Int32) (a b m : Nat) : Nat → Int32 := va_cpy it it a b m
def itU (it : Nat → Int32) (a b k : Nat) : Nat → Int32 := fun q => if b ≤ q ∧ q < b + k then it (a + (q - b)) else it q
def itV (it : Nat → Int32) (a b m k : Nat) : Nat → Int32 := fun q => if b + (m - k) ≤ q ∧ q < b + m then it (a + (q - b)) else it q
theorem itU_0 (it : Nat → Int32) (a b : Nat) : itU it a b 0 = it := by funext q; unfold itU; rw [if_neg (by omega)]
theorem itV_0 (it : Nat → Int32) (a b m : Nat) : itV it a b m 0 = it := by funext q; unfold itV; rw [if_neg (by omega)]
theorem itU_s (it : Nat → Int32) {a b k : Nat} (h : b ≤ a) : upd (itU it a b k) (b + k) (itU it a b k (a + k)) = itU it a b (k + 1) := by
  funext q
  unfold upd itU
  by_cases h1 : q = b + k
  · rw [if_pos h1, if_neg (by omega), if_pos (by omega), show a + (q - b) = a + k by omega]
  · rw [if_neg h1]
    by_cases h2 : b ≤ q ∧ q < b + k
    · rw [if_pos h2, if_pos (by omega)]
    · rw [if_neg h2, if_neg (by omega)]
theorem itV_s (it : Nat → Int32) {a b m k : Nat} (h : a < b) (hk : k < m) : upd (itV it a b m k) (b + (m - 1 - k)) (itV it a b m k (a + (m - 1 - k))) = itV it a b m (k + 1) := by
  funext q
  unfold upd itV
  by_cases h1 : q = b + (m - 1 - k)
  · rw [if_pos h1, if_neg (by omega), if_pos (by omega), show a + (q - b) = a + (m - 1 - k) by omega]
  · rw [if_neg h1]
    by_cases h2 : b + (m - k) ≤ q ∧ q < b + m
    · rw [if_pos h2, if_pos (by omega)]
    · rw [if_neg h2, if_neg (by omega)]
theorem itU_C (it : Nat → Int32) (a b m : Nat) : itU it a b m = itC it a b m := rfl
theorem itV_C (it : Nat → Int32) (a b m : Nat) : itV it a b m m = itC it a b m := by
  funext q
  unfold itV itC va_cpy
  rw [Nat.sub_self, Nat.add_zero]

set_option maxHeartbeats 4000000 in
set_option maxRecDepth 100000 in
theorem k_X11_filedAt (l : Launch) {G : GT} {c : Nat → va_E} {n n1 rn tn n2 qn : Nat} {z hd sd fr tto tk wo iz : Int32} {im : Bool} (o1 : c 32 = .inr (9, [.ref (gad G 33), .ref (gad G 34), .ref (gad G 35), .int (nI n), .int (nI n1), .int z, .int hd, .int sd, .ref (gad G 36), .ref (gad G 37), .int (nI rn), .ref (gad G 38), .int (nI tn), .int fr, .int tto, .int tk, .int wo, .ref (gad G 39), .ref (gad G 40), .ref (gad G 41), .ref (gad G 42), .ref (gad G 43), .ref (gad G 44), .int (nI n2), .int (nI qn), .int iz, .int (bi im)])) {f : Nat → Int32} (a1 : c 33 = .inl (gI G, 132, .inl f)) (hn : n ≤ 12) {rf : Nat → Int32} {rt : Nat → Int32} (a3 : c 36 = .inl (gI G, 128, .inl rf)) (a4 : c 37 = .inl (gI G, 16, .inl rt)) (hrn : rn ≤ 16) {a : Nat} (ha : a < n) : Met l yX11_filedAt (wv yX11_filedAt cX11_filedAt 5 (some .int)) ({ frames := 1, cells := 0, slots := 0, locals := 22 } : Room) (va_Pc [.ref (gad G 32), .int (nI a)] (fun U => Hw G c U U.heap)) (vp_Si (fun r => r = rfi rf f rn a)) 0 0 (fun _ => False) := by
  refine en (by decide +kernel) (by first | exact Nat.le_of_ble_eq_true rfl | decide) ?_
  intro p e s m below meth cd ls hx hb hr hml hown hts hlocks hnm hw hl
  have hl : lv_has ls 5 [(0, .ref (gad G 32)), (1, .int (nI a))] := hl
  refine lv_iconst (v := 0) hx hb dX11_filedAt_0 (by decide) ?_
  refine lv_istore_n (lv' := [(2, _), (0, _), (1, _)]) hx hb dX11_filedAt_1 rfl hl (by decide) rfl (fun ls hl => ?_)
  have L2 : ∀ (N : Nat) (pl : Nat), (pl + N = rn) → (∀ q, q < pl → rsm rf f q a = false) → ∀ ls : Array Slot, lv_has ls 5 [(2, .int (nI pl)), (1, .int (nI a)), (0, .ref (gad G 32))] → W p l e ({ frames := 1, cells := 0, slots := 0, locals := 22 } : Room) s m (([.ref (gad G 32), .int (nI a)] : List Value).toArray) below meth cd s.heap [] 0 0 (MQ below (vp_Si (fun r => r = rfi rf f rn a)) ([.ref (gad G 32), .int (nI a)] : List Value).toArray s 0 0 (fun _ => False)) (F0 m 2 ls []) := by
    intro N
    induction N with
    | zero =>
      intro pl  hN hA ls hl
      have hin : pl = rn := by omega
      rw [hin] at hA
      refine lv_iload_n hx hb dX11_filedAt_2 rfl (lv_at hl 0 rfl) ?_
      refine lv_aload_n hx hb dX11_filedAt_3 rfl (lv_at hl 2 rfl) ?_
      refine w_get (C := RX11) (T := TX11) (N := 27) 10 hx hb hts inX11 hown hw (by decide) o1 rfl (by decide) (hts _ tw_895) rfl dX11_filedAt_4 ?_
      refine lv_icmp_ge (tgt := 72) hx hb dX11_filedAt_7 (by decide) (fun c7 => ?_) (fun q => absurd (nI_le (by omega) (by omega)) q)
      refine lv_iconst (v := (-1)) hx hb dX11_filedAt_72 (by decide) ?_
      exact re_S hx hb hr hlocks (rfl) dX11_filedAt_73 ((fstU_n _ hA).symm)
    | succ N ih =>
      intro pl  hN hA ls hl
      refine lv_iload_n hx hb dX11_filedAt_2 rfl (lv_at hl 0 rfl) ?_
      refine lv_aload_n hx hb dX11_filedAt_3 rfl (lv_at hl 2 rfl) ?_
      refine w_get (C := RX11) (T := TX11) (N := 27) 10 hx hb hts inX11 hown hw (by decide) o1 rfl (by decide) (hts _ tw_895) rfl dX11_filedAt_4 ?_
      refine lv_icmp_ge (tgt := 72) hx hb dX11_filedAt_7 (by decide) (fun q => absurd q (nI_ge (by omega) (by omega))) (fun c7 => ?_)
      refine lv_iconst (v := 1) hx hb dX11_filedAt_10 (by decide) ?_
      refine lv_istore_n (lv' := [(3, _), (2, _), (1, _), (0, _)]) hx hb dX11_filedAt_11 rfl hl (by decide) rfl (fun ls hl => ?_)
      refine lv_iconst (v := 0) hx hb dX11_filedAt_12 (by decide) ?_
      refine lv_istore (lv' := [(4, _), (3, _), (2, _), (1, _), (0, _)]) hx hb dX11_filedAt_13 hl (by decide) rfl (fun ls hl => ?_)
      have L15 : ∀ (N : Nat) (j : Nat), (j + N = 8) → ∀ ls : Array Slot, lv_has ls 5 [(4, .int (nI j)), (3, .int (bi (allU (fun i => decide (rf (pl * 8 + i) = f (a * 11 + i))) j))), (2, .int (nI pl)), (1, .int (nI a)), (0, .ref (gad G 32))] → W p l e ({ frames := 1, cells := 0, slots := 0, locals := 22 } : Room) s m (([.ref (gad G 32), .int (nI a)] : List Value).toArray) below meth cd s.heap [] 0 0 (MQ below (vp_Si (fun r => r = rfi rf f rn a)) ([.ref (gad G 32), .int (nI a)] : List Value).toArray s 0 0 (fun _ => False)) (F0 m 15 ls []) := by
        intro N
        induction N with
        | zero =>
          intro j  hM ls hl
          have hj8 : j = 8 := by omega
          refine lv_iload hx hb dX11_filedAt_15 (lv_at hl 0 rfl) ?_
          refine lv_bipush (v := 8) hx hb dX11_filedAt_17 (by decide) ?_
          refine lv_icmp_ge (tgt := 60) hx hb dX11_filedAt_19 (by decide) (fun c19 => ?_) (fun q => absurd (nI_le (a := 8) (by omega) (by omega)) q)
          refine lv_iload_n hx hb dX11_filedAt_60 rfl (lv_at hl 1 rfl) ?_
          refine zb_eq (tgt := 66) hx hb dX11_filedAt_61 (by decide) (fun c61 => ?_) (fun c61 => ?_)
          · refine lv_iinc (v := nI (pl + 1)) (lv' := [(2, _), (4, _), (3, _), (1, _), (0, _)]) hx hb dX11_filedAt_66 hl (k := 2) rfl (inc1 pl) (by decide) rfl (fun ls hl => ?_)
            refine lv_goto (tgt := 2) hx hb dX11_filedAt_69 (by decide) ?_
            exact ih (pl + 1) (by omega) (lt_s hA (show rsm rf f pl a = false by have e8 := c61; rw [hj8] at e8; exact e8)) ls (lv_sub hl [0, 3, 4] rfl)
          · refine lv_iload_n hx hb dX11_filedAt_64 rfl (lv_at hl 2 rfl) ?_
            exact re_S hx hb hr hlocks (rfl) dX11_filedAt_65 (by rw [rfi, fstU_s (by omega) hA (show rsm rf f pl a = true by have e8 := c61; rw [hj8] at e8; exact e8) rn (by omega)])
        | succ N ih =>
          intro j  hM ls hl
          refine lv_iload hx hb dX11_filedAt_15 (lv_at hl 0 rfl) ?_
          refine lv_bipush (v := 8) hx hb dX11_filedAt_17 (by decide) ?_
          refine lv_icmp_ge (tgt := 60) hx hb dX11_filedAt_19 (by decide) (fun q => absurd q (nI_ge (b := 8) (by omega) (by omega))) (fun c19 => ?_)
          have C54 : ∀ ls : Array Slot, lv_has ls 5 [(4, .int (nI j)), (3, .int (bi (allU (fun i => decide (rf (pl * 8 + i) = f (a * 11 + i))) (j + 1)))), (2, .int (nI pl)), (1, .int (nI a)), (0, .ref (gad G 32))] → W p l e ({ frames := 1, cells := 0, slots := 0, locals := 22 } : Room) s m (([.ref (gad G 32), .int (nI a)] : List Value).toArray) below meth cd s.heap [] 0 0 (MQ below (vp_Si (fun r => r = rfi rf f rn a)) ([.ref (gad G 32), .int (nI a)] : List Value).toArray s 0 0 (fun _ => False)) (F0 m 54 ls []) := by
            intro ls hl
            refine lv_iinc (v := nI (j + 1)) (lv' := [(4, _), (3, _), (2, _), (1, _), (0, _)]) hx hb dX11_filedAt_54 hl (k := 0) rfl (inc1 j) (by decide) rfl (fun ls hl => ?_)
            refine lv_goto (tgt := 15) hx hb dX11_filedAt_57 (by decide) ?_
            exact ih (j + 1) (by omega) ls (lv_sub hl [0, 1, 2, 3, 4] rfl)
          refine lv_iload_n hx hb dX11_filedAt_22 rfl (lv_at hl 1 rfl) ?_
          refine zb_eq (tgt := 52) hx hb dX11_filedAt_23 (by decide) (fun c23 => ?_) (fun c23 => ?_)
          · refine lv_iconst (v := 0) hx hb dX11_filedAt_52 (by decide) ?_
            refine tp (y := bi (allU (fun i => decide (rf (pl * 8 + i) = f (a * 11 + i))) (j + 1))) (bi_and (by rw [allU, c23]; rfl)) ?_
            refine lv_istore_n (lv' := [(3, _), (4, _), (2, _), (1, _), (0, _)]) hx hb dX11_filedAt_53 rfl hl (by decide) rfl (fun ls hl => ?_)
            exact C54 ls (lv_sub hl [1, 0, 2, 3, 4] rfl)
          · refine lv_aload_n hx hb dX11_filedAt_26 rfl (lv_at hl 4 rfl) ?_
            refine w_get (C := RX11) (T := TX11) (N := 27) 8 hx hb hts inX11 hown hw (by decide) o1 rfl (by decide) (hts _ tw_893) rfl dX11_filedAt_27 ?_
            refine lv_bipush (v := 8) hx hb dX11_filedAt_30 (by decide) ?_
            refine lv_iload_n hx hb dX11_filedAt_32 rfl (lv_at hl 2 rfl) ?_
            refine lv_imul hx hb dX11_filedAt_33 ?_
            refine lv_iload hx hb dX11_filedAt_34 (lv_at hl 0 rfl) ?_
            refine lv_iadd hx hb dX11_filedAt_36 ?_
            refine w_ialdN (j := pl * 8 + j) hx hb hw (by decide) a3 (ixm8 pl j) (by omega) (by decide) dX11_filedAt_37 ?_
            refine lv_aload_n hx hb dX11_filedAt_38 rfl (lv_at hl 4 rfl) ?_
            refine lv_iload_n hx hb dX11_filedAt_39 rfl (lv_at hl 3 rfl) ?_
            refine lv_iload hx hb dX11_filedAt_40 (lv_at hl 0 rfl) ?_
            refine cSe (rV (As := [_, _]) ⟨hx, hb, hml, hown, hts⟩ hw (k_X11_is l o1 a1 hn (ixm a j) (by omega)) (cv_X11_is hts tw_993 rfl rfl ⟨Nat.le_of_ble_eq_true rfl, Nat.le_of_ble_eq_true rfl⟩) (by decide) o1 rfl rfl hl.1 rfl (by first | exact Nat.le_of_ble_eq_true rfl | decide) dX11_filedAt_42 ⟨Nat.zero_le _, Nat.zero_le _⟩) ?_
            refine lv_icmp_ne (tgt := 52) hx hb dX11_filedAt_45 (by decide) (fun c45 => ?_) (fun c45 => ?_)
            · refine lv_iconst (v := 0) hx hb dX11_filedAt_52 (by decide) ?_
              refine tp (y := bi (allU (fun i => decide (rf (pl * 8 + i) = f (a * 11 + i))) (j + 1))) (bi_and (by rw [allU, c23]; simp [c45])) ?_
              refine lv_istore_n (lv' := [(3, _), (4, _), (2, _), (1, _), (0, _)]) hx hb dX11_filedAt_53 rfl hl (by decide) rfl (fun ls hl => ?_)
              exact C54 ls (lv_sub hl [1, 0, 2, 3, 4] rfl)
            · refine lv_iconst (v := 1) hx hb dX11_filedAt_48 (by decide) ?_
              refine lv_goto (tgt := 53) hx hb dX11_filedAt_49 (by decide) ?_
              refine tp (y := bi (allU (fun i => decide (rf (pl * 8 + i) = f (a * 11 + i))) (j + 1))) (bi_tt (by rw [allU, c23]; simp [c45])) ?_
              refine lv_istore_n (lv' := [(3, _), (4, _), (2, _), (1, _), (0, _)]) hx hb dX11_filedAt_53 rfl hl (by decide) rfl (fun ls hl => ?_)
              exact C54 ls (lv_sub hl [1, 0, 2, 3, 4] rfl)
      exact L15 8 0 (by omega) ls (lv_sub hl [0, 1, 2, 3, 4] rfl)
  exact L2 rn 0 (by omega) lt_0 ls (lv_sub hl [0, 2, 1] rfl)
set_option maxHeartbeats 4000000 in
set_option maxRecDepth 100000 in
theorem k_X11_file (l : Launch) {G : GT} {c : Nat → va_E} {n n1 rn tn n2 qn : Nat} {z hd sd fr tto tk wo iz : Int32} {im : Bool} (o1 : c 32 = .inr (9, [.ref (gad G 33), .ref (gad G 34), .ref (gad G 35), .int (nI n), .int (nI n1), .int z, .int hd, .int sd, .ref (gad G 36), .ref (gad G 37), .int (nI rn), .ref (gad G 38), .int (nI tn), .int fr, .int tto, .int tk, .int wo, .ref (gad G 39), .ref (gad G 40), .ref (gad G 41), .ref (gad G 42), .ref (gad G 43), .ref (gad G 44), .int (nI n2), .int (nI qn), .int iz, .int (bi im)])) {f : Nat → Int32} (a1 : c 33 = .inl (gI G, 132, .inl f)) (hn : n ≤ 12) {rf : Nat → Int32} {rt : Nat → Int32} (a3 : c 36 = .inl (gI G, 128, .inl rf)) (a4 : c 37 = .inl (gI G, 16, .inl rt)) (hrn : rn ≤ 16) {x : Int32} : Met l yX11_file (wv yX11_file cX11_file 4 (some .int)) ({ frames := 2, cells := 0, slots := 0, locals := 46 } : Room) (va_Pc [.ref (gad G 32), .int x] (fun U => Hw G c U U.heap)) (va_Qi (fun r (c9 : Nat → va_E) => (hasN n x = false ∧ r = -2 ∧ c9 = c) ∨ (∃ j9, j9 < n ∧ x = nI j9 ∧ ((rfi rf f rn j9 = -1 ∧ rn = 16 ∧ r = -4 ∧ c9 = c) ∨ (rfi rf f rn j9 = -1 ∧ rn < 16 ∧ r = nI rn ∧ c9 = va_up (va_up (va_up c 32 (.inr (9, [.ref (gad G 33), .ref (gad G 34), .ref (gad G 35), .int (nI n), .int (nI n1), .int z, .int hd, .int sd, .ref (gad G 36), .ref (gad G 37), .int (nI (rn + 1)), .ref (gad G 38), .int (nI tn), .int fr, .int tto, .int tk, .int wo, .ref (gad G 39), .ref (gad G 40), .ref (gad G 41), .ref (gad G 42), .ref (gad G 43), .ref (gad G 44), .int (nI n2), .int (nI qn), .int iz, .int (bi im)]))) 36 (.inl (gI G, 128, .inl (cpF rf f rn j9 8)))) 37 (.inl (gI G, 16, .inl (upd rt rn 1)))) ∨ (∃ q, q < rn ∧ rfi rf f rn j9 = nI q ∧ r = nI q ∧ c9 = va_up c 37 (.inl (gI G, 16, .inl (upd rt q (rt q + 1)))))))) (fun c9 t => Hw G c9 t t.heap) (gA G)) 0 0 (gA G) := by
  refine en (by decide +kernel) (by first | exact Nat.le_of_ble_eq_true rfl | decide) ?_
  intro p e s m below meth cd ls hx hb hr hml hown hts hlocks hnm hw hl
  have hl : lv_has ls 4 [(0, .ref (gad G 32)), (1, .int x)] := hl
  have hX : Sw G s s.heap := hw.2.2.2.2.2
  have hS : va_S (gA G) s.heap s.heap [] := va_S.rf
  obtain ⟨H, hH⟩ : ∃ wz9, wz9 = s.heap := ⟨_, rfl⟩
  obtain ⟨locs, hlocs⟩ : ∃ wz9 : List Loc, wz9 = [] := ⟨_, rfl⟩
  have hw : Hw G c s H := by rw [hH]; exact hw
  have hS : va_S (gA G) s.heap H locs := by rw [hH, hlocs]; exact hS
  suffices hgo : W p l e ({ frames := 2, cells := 0, slots := 0, locals := 46 } : Room) s m (([.ref (gad G 32), .int x] : List Value).toArray) below meth cd H locs 0 0 (MQ below (va_Qi (fun r (c9 : Nat → va_E) => (hasN n x = false ∧ r = -2 ∧ c9 = c) ∨ (∃ j9, j9 < n ∧ x = nI j9 ∧ ((rfi rf f rn j9 = -1 ∧ rn = 16 ∧ r = -4 ∧ c9 = c) ∨ (rfi rf f rn j9 = -1 ∧ rn < 16 ∧ r = nI rn ∧ c9 = va_up (va_up (va_up c 32 (.inr (9, [.ref (gad G 33), .ref (gad G 34), .ref (gad G 35), .int (nI n), .int (nI n1), .int z, .int hd, .int sd, .ref (gad G 36), .ref (gad G 37), .int (nI (rn + 1)), .ref (gad G 38), .int (nI tn), .int fr, .int tto, .int tk, .int wo, .ref (gad G 39), .ref (gad G 40), .ref (gad G 41), .ref (gad G 42), .ref (gad G 43), .ref (gad G 44), .int (nI n2), .int (nI qn), .int iz, .int (bi im)]))) 36 (.inl (gI G, 128, .inl (cpF rf f rn j9 8)))) 37 (.inl (gI G, 16, .inl (upd rt rn 1)))) ∨ (∃ q, q < rn ∧ rfi rf f rn j9 = nI q ∧ r = nI q ∧ c9 = va_up c 37 (.inl (gI G, 16, .inl (upd rt q (rt q + 1)))))))) (fun c9 t => Hw G c9 t t.heap) (gA G)) ([.ref (gad G 32), .int x] : List Value).toArray s 0 0 (gA G)) (F0 m 0 ls []) by rw [hH, hlocs] at hgo; exact hgo
  refine lv_aload_n hx hb dX11_file_0 rfl (lv_at hl 0 rfl) ?_
  refine lv_iload_n hx hb dX11_file_1 rfl (lv_at hl 1 rfl) ?_
  refine cSe (rV (As := [_]) ⟨hx, hb, hml, hown, hts⟩ hw (k_X11_isClause l o1 a1 hn) (cv_X11_isClause hts tw_983 rfl rfl ⟨Nat.le_of_ble_eq_true rfl, Nat.le_of_ble_eq_true rfl⟩) (by decide) o1 rfl rfl hl.1 rfl (by first | exact Nat.le_of_ble_eq_true rfl | decide) dX11_file_2 ⟨Nat.zero_le _, Nat.zero_le _⟩) ?_
  refine zb_ne (tgt := 11) hx hb dX11_file_5 (by decide) (fun c5 => ?_) (fun c5 => ?_)
  · obtain ⟨a, ha, rfl⟩ := hasN_t hn c5
    refine lv_aload_n hx hb dX11_file_11 rfl (lv_at hl 0 rfl) ?_
    refine lv_iload_n hx hb dX11_file_12 rfl (lv_at hl 1 rfl) ?_
    refine cSe (rV (As := [_]) ⟨hx, hb, hml, hown, hts⟩ hw (k_X11_filedAt l o1 a1 hn a3 a4 hrn ha) (cv_X11_filedAt hts tw_1182 rfl rfl ⟨Nat.le_of_ble_eq_true rfl, Nat.le_of_ble_eq_true rfl⟩) (by decide) o1 rfl rfl hl.1 rfl (by first | exact Nat.le_of_ble_eq_true rfl | decide) dX11_file_13 ⟨Nat.zero_le _, Nat.zero_le _⟩) ?_
    refine lv_istore_n (lv' := [(2, _), (0, _), (1, _)]) hx hb dX11_file_16 rfl hl (by decide) rfl (fun ls hl => ?_)
    refine lv_iload_n hx hb dX11_file_17 rfl (lv_at hl 0 rfl) ?_
    refine lv_iconst (v := (-1)) hx hb dX11_file_18 (by decide) ?_
    refine lv_icmp_ne (tgt := 34) hx hb dX11_file_19 (by decide) (fun c19 => ?_) (fun c19 => ?_)
    · refine lv_iload_n hx hb dX11_file_34 rfl (lv_at hl 0 rfl) ?_
      refine lv_iconst (v := (-1)) hx hb dX11_file_35 (by decide) ?_
      refine lv_icmp_ne (tgt := 92) hx hb dX11_file_36 (by decide) (fun c36 => ?_) (fun q => absurd q (c19))
      obtain ⟨q, hq1, hq2⟩ : ∃ q, q < rn ∧ rfi rf f rn a = nI q := by
        rcases fstU_or (P := fun pl => rsm rf f pl a) rn (by omega) with z | z
        · exact absurd z c19
        · exact z
      rw [hq2] at hl
      refine lv_aload_n hx hb dX11_file_92 rfl (lv_at hl 1 rfl) ?_
      refine w_get (C := RX11) (T := TX11) (N := 27) 9 hx hb hts inX11 hown hw (by decide) o1 rfl (by decide) (hts _ tw_894) rfl dX11_file_93 ?_
      refine lv_iload_n hx hb dX11_file_96 rfl (lv_at hl 0 rfl) ?_
      refine lv_dup2_11 hx hb dX11_file_97 rfl rfl ?_
      refine w_ialdN (j := q) hx hb hw (by decide) a4 (rfl) (by omega) (by decide) dX11_file_98 ?_
      refine lv_iconst (v := 1) hx hb dX11_file_99 (by decide) ?_
      refine lv_iadd hx hb dX11_file_100 ?_
      refine w_iastN (j := q) (x := rt q + 1) hx hb hw hX hS (by decide) a4 (rfl) (by omega) (by decide) dX11_file_101 (fun H locs hw hS => ?_)
      obtain ⟨w1, ew1⟩ : ∃ wz9 : Nat → va_E, wz9 = va_up c 37 (.inl (gI G, 16, .inl (upd rt (q) (rt q + 1)))) := ⟨_, rfl⟩
      have hw : Hw G w1 s H := by rw [ew1]; exact hw
      have o1_1 : w1 32 = .inr (9, [.ref (gad G 33), .ref (gad G 34), .ref (gad G 35), .int (nI n), .int (nI n1), .int z, .int hd, .int sd, .ref (gad G 36), .ref (gad G 37), .int (nI rn), .ref (gad G 38), .int (nI tn), .int fr, .int tto, .int tk, .int wo, .ref (gad G 39), .ref (gad G 40), .ref (gad G 41), .ref (gad G 42), .ref (gad G 43), .ref (gad G 44), .int (nI n2), .int (nI qn), .int iz, .int (bi im)]) := by rw [ew1]; exact vu_e (by decide) o1
      have a1_1 : w1 33 = .inl (gI G, 132, .inl f) := by rw [ew1]; exact vu_e (by decide) a1
      have a3_1 : w1 36 = .inl (gI G, 128, .inl rf) := by rw [ew1]; exact vu_e (by decide) a3
      have a4_1 : w1 37 = .inl (gI G, 16, .inl (upd rt (q) (rt q + 1))) := by rw [ew1]; exact vu_s
      refine lv_iload_n hx hb dX11_file_102 rfl (lv_at hl 0 rfl) ?_
      exact re_Q hx hb hr hlocks (rfl) hw hS dX11_file_103 (Or.inr ⟨a, ha, rfl, Or.inr (Or.inr ⟨q, hq1, hq2, rfl, ew1⟩)⟩)
    · refine lv_aload_n hx hb dX11_file_22 rfl (lv_at hl 1 rfl) ?_
      refine w_get (C := RX11) (T := TX11) (N := 27) 10 hx hb hts inX11 hown hw (by decide) o1 rfl (by decide) (hts _ tw_895) rfl dX11_file_23 ?_
      refine lv_bipush (v := 16) hx hb dX11_file_26 (by decide) ?_
      refine lv_icmp_ne (tgt := 34) hx hb dX11_file_28 (by decide) (fun c28 => ?_) (fun c28 => ?_)
      · refine lv_iload_n hx hb dX11_file_34 rfl (lv_at hl 0 rfl) ?_
        refine lv_iconst (v := (-1)) hx hb dX11_file_35 (by decide) ?_
        refine lv_icmp_ne (tgt := 92) hx hb dX11_file_36 (by decide) (fun q => absurd (c19) q) (fun c36 => ?_)
        have hlt : rn < 16 := by rcases Nat.lt_or_ge rn 16 with q | q; exact q; exact absurd (by rw [show rn = 16 by omega]; rfl) c28
        refine lv_aload_n hx hb dX11_file_39 rfl (lv_at hl 1 rfl) ?_
        refine w_get (C := RX11) (T := TX11) (N := 27) 10 hx hb hts inX11 hown hw (by decide) o1 rfl (by decide) (hts _ tw_895) rfl dX11_file_40 ?_
        refine lv_istore_n (lv' := [(2, _), (0, _), (1, _)]) hx hb dX11_file_43 rfl hl (by decide) rfl (fun ls hl => ?_)
        refine lv_aload_n hx hb dX11_file_44 rfl (lv_at hl 1 rfl) ?_
        refine lv_dup hx hb dX11_file_45 rfl ?_
        refine w_get (C := RX11) (T := TX11) (N := 27) 10 hx hb hts inX11 hown hw (by decide) o1 rfl (by decide) (hts _ tw_895) rfl dX11_file_46 ?_
        refine lv_iconst (v := 1) hx hb dX11_file_49 (by decide) ?_
        refine lv_iadd hx hb dX11_file_50 ?_
        refine tp (y := nI (rn + 1)) (nI_1 rn) ?_
        refine w_put (C := RX11) (T := TX11) (N := 27) (v := .int (nI (rn + 1))) 10 tyX11 hx hb hts inX11 tyX11_ok nmX11 hown hw hX hS (by decide) o1 rfl (by decide) (hts _ tw_895) rfl rfl (rfl) (rfl) (Nat.le_of_ble_eq_true rfl) dX11_file_51 (fun H locs hw hS => ?_)
        obtain ⟨w3, ew3⟩ : ∃ wz9 : Nat → va_E, wz9 = va_up c 32 (.inr (9, [.ref (gad G 33), .ref (gad G 34), .ref (gad G 35), .int (nI n), .int (nI n1), .int z, .int hd, .int sd, .ref (gad G 36), .ref (gad G 37), .int (nI (rn + 1)), .ref (gad G 38), .int (nI tn), .int fr, .int tto, .int tk, .int wo, .ref (gad G 39), .ref (gad G 40), .ref (gad G 41), .ref (gad G 42), .ref (gad G 43), .ref (gad G 44), .int (nI n2), .int (nI qn), .int iz, .int (bi im)])) := ⟨_, rfl⟩
        have hw : Hw G w3 s H := by rw [ew3]; exact hw
        have o1_3 : w3 32 = .inr (9, [.ref (gad G 33), .ref (gad G 34), .ref (gad G 35), .int (nI n), .int (nI n1), .int z, .int hd, .int sd, .ref (gad G 36), .ref (gad G 37), .int (nI (rn + 1)), .ref (gad G 38), .int (nI tn), .int fr, .int tto, .int tk, .int wo, .ref (gad G 39), .ref (gad G 40), .ref (gad G 41), .ref (gad G 42), .ref (gad G 43), .ref (gad G 44), .int (nI n2), .int (nI qn), .int iz, .int (bi im)]) := by rw [ew3]; exact vu_s
        have a1_3 : w3 33 = .inl (gI G, 132, .inl f) := by rw [ew3]; exact vu_e (by decide) a1
        have a3_3 : w3 36 = .inl (gI G, 128, .inl rf) := by rw [ew3]; exact vu_e (by decide) a3
        have a4_3 : w3 37 = .inl (gI G, 16, .inl rt) := by rw [ew3]; exact vu_e (by decide) a4
        refine lv_aload_n hx hb dX11_file_54 rfl (lv_at hl 1 rfl) ?_
        refine w_get (C := RX11) (T := TX11) (N := 27) 9 hx hb hts inX11 hown hw (by decide) o1_3 rfl (by decide) (hts _ tw_894) rfl dX11_file_55 ?_
        refine lv_iload_n hx hb dX11_file_58 rfl (lv_at hl 0 rfl) ?_
        refine lv_iconst (v := 0) hx hb dX11_file_59 (by decide) ?_
        refine w_iastN (j := rn) (x := 0) hx hb hw hX hS (by decide) a4_3 (rfl) (by omega) (by decide) dX11_file_60 (fun H locs hw hS => ?_)
        obtain ⟨w4, ew4⟩ : ∃ wz9 : Nat → va_E, wz9 = va_up w3 37 (.inl (gI G, 16, .inl (upd rt (rn) (0)))) := ⟨_, rfl⟩
        have hw : Hw G w4 s H := by rw [ew4]; exact hw
        have o1_4 : w4 32 = .inr (9, [.ref (gad G 33), .ref (gad G 34), .ref (gad G 35), .int (nI n), .int (nI n1), .int z, .int hd, .int sd, .ref (gad G 36), .ref (gad G 37), .int (nI (rn + 1)), .ref (gad G 38), .int (nI tn), .int fr, .int tto, .int tk, .int wo, .ref (gad G 39), .ref (gad G 40), .ref (gad G 41), .ref (gad G 42), .ref (gad G 43), .ref (gad G 44), .int (nI n2), .int (nI qn), .int iz, .int (bi im)]) := by rw [ew4]; exact vu_e (by decide) o1_3
        have a1_4 : w4 33 = .inl (gI G, 132, .inl f) := by rw [ew4]; exact vu_e (by decide) a1_3
        have a3_4 : w4 36 = .inl (gI G, 128, .inl rf) := by rw [ew4]; exact vu_e (by decide) a3_3
        have a4_4 : w4 37 = .inl (gI G, 16, .inl (upd rt (rn) (0))) := by rw [ew4]; exact vu_s
        refine lv_iconst (v := 0) hx hb dX11_file_61 (by decide) ?_
        refine lv_istore_n (lv' := [(3, _), (2, _), (0, _), (1, _)]) hx hb dX11_file_62 rfl hl (by decide) rfl (fun ls hl => ?_)
        have L63 : ∀ (N : Nat) (i : Nat) (fz : Nat → Int32), (i + N = 8) → (fz = cpF rf f rn a i) → ∀ (c0 : Nat → va_E) (H : Heap) (locs : List Loc), (c0 = va_up (va_up (va_up c 32 (.inr (9, [.ref (gad G 33), .ref (gad G 34), .ref (gad G 35), .int (nI n), .int (nI n1), .int z, .int hd, .int sd, .ref (gad G 36), .ref (gad G 37), .int (nI (rn + 1)), .ref (gad G 38), .int (nI tn), .int fr, .int tto, .int tk, .int wo, .ref (gad G 39), .ref (gad G 40), .ref (gad G 41), .ref (gad G 42), .ref (gad G 43), .ref (gad G 44), .int (nI n2), .int (nI qn), .int iz, .int (bi im)]))) 36 (.inl (gI G, 128, .inl fz))) 37 (.inl (gI G, 16, .inl (upd rt rn 0)))) → Hw G c0 s H → va_S (gA G) s.heap H locs → ∀ ls : Array Slot, lv_has ls 4 [(3, .int (nI i)), (2, .int (nI rn)), (1, .int (nI a)), (0, .ref (gad G 32))] → W p l e ({ frames := 2, cells := 0, slots := 0, locals := 46 } : Room) s m (([.ref (gad G 32), .int (nI a)] : List Value).toArray) below meth cd H locs 0 0 (MQ below (va_Qi (fun r (c9 : Nat → va_E) => (hasN n (nI a) = false ∧ r = -2 ∧ c9 = c) ∨ (∃ j9, j9 < n ∧ (nI a) = nI j9 ∧ ((rfi rf f rn j9 = -1 ∧ rn = 16 ∧ r = -4 ∧ c9 = c) ∨ (rfi rf f rn j9 = -1 ∧ rn < 16 ∧ r = nI rn ∧ c9 = va_up (va_up (va_up c 32 (.inr (9, [.ref (gad G 33), .ref (gad G 34), .ref (gad G 35), .int (nI n), .int (nI n1), .int z, .int hd, .int sd, .ref (gad G 36), .ref (gad G 37), .int (nI (rn + 1)), .ref (gad G 38), .int (nI tn), .int fr, .int tto, .int tk, .int wo, .ref (gad G 39), .ref (gad G 40), .ref (gad G 41), .ref (gad G 42), .ref (gad G 43), .ref (gad G 44), .int (nI n2), .int (nI qn), .int iz, .int (bi im)]))) 36 (.inl (gI G, 128, .inl (cpF rf f rn j9 8)))) 37 (.inl (gI G, 16, .inl (upd rt rn 1)))) ∨ (∃ q, q < rn ∧ rfi rf f rn j9 = nI q ∧ r = nI q ∧ c9 = va_up c 37 (.inl (gI G, 16, .inl (upd rt q (rt q + 1)))))))) (fun c9 t => Hw G c9 t t.heap) (gA G)) ([.ref (gad G 32), .int (nI a)] : List Value).toArray s 0 0 (gA G)) (F0 m 63 ls []) := by
          intro N
          induction N with
          | zero =>
            intro i  fz  hN hz c0 H locs e0 hw hS ls hl
            obtain rfl : i = 8 := by omega
            have o1 : c0 32 = .inr (9, [.ref (gad G 33), .ref (gad G 34), .ref (gad G 35), .int (nI n), .int (nI n1), .int z, .int hd, .int sd, .ref (gad G 36), .ref (gad G 37), .int (nI (rn + 1)), .ref (gad G 38), .int (nI tn), .int fr, .int tto, .int tk, .int wo, .ref (gad G 39), .ref (gad G 40), .ref (gad G 41), .ref (gad G 42), .ref (gad G 43), .ref (gad G 44), .int (nI n2), .int (nI qn), .int iz, .int (bi im)]) := by rw [e0]; exact vu_e (by decide) (vu_e (by decide) vu_s)
            have a1 : c0 33 = .inl (gI G, 132, .inl f) := by rw [e0]; exact vu_e (by decide) (vu_e (by decide) (vu_e (by decide) a1))
            have a3 : c0 36 = .inl (gI G, 128, .inl fz) := by rw [e0]; exact vu_e (by decide) vu_s
            have a4 : c0 37 = .inl (gI G, 16, .inl (upd rt rn 0)) := by rw [e0]; exact vu_s
            refine lv_iload_n hx hb dX11_file_63 rfl (lv_at hl 0 rfl) ?_
            refine lv_bipush (v := 8) hx hb dX11_file_64 (by decide) ?_
            refine lv_icmp_ge (tgt := 92) hx hb dX11_file_66 (by decide) (fun c66 => ?_) (fun q => absurd (by decide) q)
            skip
            refine lv_aload_n hx hb dX11_file_92 rfl (lv_at hl 3 rfl) ?_
            refine w_get (C := RX11) (T := TX11) (N := 27) 9 hx hb hts inX11 hown hw (by decide) o1 rfl (by decide) (hts _ tw_894) rfl dX11_file_93 ?_
            refine lv_iload_n hx hb dX11_file_96 rfl (lv_at hl 1 rfl) ?_
            refine lv_dup2_11 hx hb dX11_file_97 rfl rfl ?_
            refine w_ialdN (j := rn) hx hb hw (by decide) a4 (rfl) (by omega) (by decide) dX11_file_98 ?_
            refine lv_iconst (v := 1) hx hb dX11_file_99 (by decide) ?_
            refine lv_iadd hx hb dX11_file_100 ?_
            refine w_iastN (j := rn) (x := upd rt rn 0 rn + 1) hx hb hw hX hS (by decide) a4 (rfl) (by omega) (by decide) dX11_file_101 (fun H locs hw hS => ?_)
            obtain ⟨w5, ew5⟩ : ∃ wz9 : Nat → va_E, wz9 = va_up c0 37 (.inl (gI G, 16, .inl (upd (upd rt (rn) (0)) (rn) (upd rt rn 0 rn + 1)))) := ⟨_, rfl⟩
            have hw : Hw G w5 s H := by rw [ew5]; exact hw
            have o1_5 : w5 32 = .inr (9, [.ref (gad G 33), .ref (gad G 34), .ref (gad G 35), .int (nI n), .int (nI n1), .int z, .int hd, .int sd, .ref (gad G 36), .ref (gad G 37), .int (nI (rn + 1)), .ref (gad G 38), .int (nI tn), .int fr, .int tto, .int tk, .int wo, .ref (gad G 39), .ref (gad G 40), .ref (gad G 41), .ref (gad G 42), .ref (gad G 43), .ref (gad G 44), .int (nI n2), .int (nI qn), .int iz, .int (bi im)]) := by rw [ew5]; exact vu_e (by decide) o1
            have a1_5 : w5 33 = .inl (gI G, 132, .inl f) := by rw [ew5]; exact vu_e (by decide) a1
            have a3_5 : w5 36 = .inl (gI G, 128, .inl fz) := by rw [ew5]; exact vu_e (by decide) a3
            have a4_5 : w5 37 = .inl (gI G, 16, .inl (upd (upd rt (rn) (0)) (rn) (upd rt rn 0 rn + 1))) := by rw [ew5]; exact vu_s
            refine lv_iload_n hx hb dX11_file_102 rfl (lv_at hl 1 rfl) ?_
            exact re_Q hx hb hr hlocks (rfl) hw hS dX11_file_103 (Or.inr ⟨a, ha, rfl, Or.inr (Or.inl ⟨c19, hlt, rfl, by rw [ew5, e0, hz, up_up, upd_2]⟩)⟩)
          | succ N ih =>
            intro i  fz  hN hz c0 H locs e0 hw hS ls hl
            have o1 : c0 32 = .inr (9, [.ref (gad G 33), .ref (gad G 34), .ref (gad G 35), .int (nI n), .int (nI n1), .int z, .int hd, .int sd, .ref (gad G 36), .ref (gad G 37), .int (nI (rn + 1)), .ref (gad G 38), .int (nI tn), .int fr, .int tto, .int tk, .int wo, .ref (gad G 39), .ref (gad G 40), .ref (gad G 41), .ref (gad G 42), .ref (gad G 43), .ref (gad G 44), .int (nI n2), .int (nI qn), .int iz, .int (bi im)]) := by rw [e0]; exact vu_e (by decide) (vu_e (by decide) vu_s)
            have a1 : c0 33 = .inl (gI G, 132, .inl f) := by rw [e0]; exact vu_e (by decide) (vu_e (by decide) (vu_e (by decide) a1))
            have a3 : c0 36 = .inl (gI G, 128, .inl fz) := by rw [e0]; exact vu_e (by decide) vu_s
            have a4 : c0 37 = .inl (gI G, 16, .inl (upd rt rn 0)) := by rw [e0]; exact vu_s
            refine lv_iload_n hx hb dX11_file_63 rfl (lv_at hl 0 rfl) ?_
            refine lv_bipush (v := 8) hx hb dX11_file_64 (by decide) ?_
            refine lv_icmp_ge (tgt := 92) hx hb dX11_file_66 (by decide) (fun q => absurd q (nI_ge (b := 8) (by omega) (by omega))) (fun c66 => ?_)
            refine lv_aload_n hx hb dX11_file_69 rfl (lv_at hl 3 rfl) ?_
            refine w_get (C := RX11) (T := TX11) (N := 27) 8 hx hb hts inX11 hown hw (by decide) o1 rfl (by decide) (hts _ tw_893) rfl dX11_file_70 ?_
            refine lv_bipush (v := 8) hx hb dX11_file_73 (by decide) ?_
            refine lv_iload_n hx hb dX11_file_75 rfl (lv_at hl 1 rfl) ?_
            refine lv_imul hx hb dX11_file_76 ?_
            refine lv_iload_n hx hb dX11_file_77 rfl (lv_at hl 0 rfl) ?_
            refine lv_iadd hx hb dX11_file_78 ?_
            refine lv_aload_n hx hb dX11_file_79 rfl (lv_at hl 3 rfl) ?_
            refine lv_iload_n hx hb dX11_file_80 rfl (lv_at hl 2 rfl) ?_
            refine lv_iload_n hx hb dX11_file_81 rfl (lv_at hl 0 rfl) ?_
            refine cSe (rV (As := [_, _]) ⟨hx, hb, hml, hown, hts⟩ hw (k_X11_is l o1 a1 hn (ixm a i) (by omega)) (cv_X11_is hts tw_993 rfl rfl ⟨Nat.le_of_ble_eq_true rfl, Nat.le_of_ble_eq_true rfl⟩) (by decide) o1 rfl rfl hl.1 rfl (by first | exact Nat.le_of_ble_eq_true rfl | decide) dX11_file_82 ⟨Nat.zero_le _, Nat.zero_le _⟩) ?_
            refine w_iastN (j := rn * 8 + i) (x := f (a * 11 + i)) hx hb hw hX hS (by decide) a3 (ixm8 rn i) (by omega) (by decide) dX11_file_85 (fun H locs hw hS => ?_)
            obtain ⟨w6, ew6⟩ : ∃ wz9 : Nat → va_E, wz9 = va_up c0 36 (.inl (gI G, 128, .inl (upd fz (rn * 8 + i) (f (a * 11 + i))))) := ⟨_, rfl⟩
            have hw : Hw G w6 s H := by rw [ew6]; exact hw
            have o1_6 : w6 32 = .inr (9, [.ref (gad G 33), .ref (gad G 34), .ref (gad G 35), .int (nI n), .int (nI n1), .int z, .int hd, .int sd, .ref (gad G 36), .ref (gad G 37), .int (nI (rn + 1)), .ref (gad G 38), .int (nI tn), .int fr, .int tto, .int tk, .int wo, .ref (gad G 39), .ref (gad G 40), .ref (gad G 41), .ref (gad G 42), .ref (gad G 43), .ref (gad G 44), .int (nI n2), .int (nI qn), .int iz, .int (bi im)]) := by rw [ew6]; exact vu_e (by decide) o1
            have a1_6 : w6 33 = .inl (gI G, 132, .inl f) := by rw [ew6]; exact vu_e (by decide) a1
            have a3_6 : w6 36 = .inl (gI G, 128, .inl (upd fz (rn * 8 + i) (f (a * 11 + i)))) := by rw [ew6]; exact vu_s
            have a4_6 : w6 37 = .inl (gI G, 16, .inl (upd rt (rn) (0))) := by rw [ew6]; exact vu_e (by decide) a4
            refine lv_iinc (v := nI (i + 1)) (lv' := [(3, _), (2, _), (1, _), (0, _)]) hx hb dX11_file_86 hl (k := 0) rfl (inc1 i) (by decide) rfl (fun ls hl => ?_)
            refine lv_goto (tgt := 63) hx hb dX11_file_89 (by decide) ?_
            exact ih (i + 1) (cpF rf f rn a (i + 1)) (by omega) rfl _ H locs (by rw [ew6, e0, up_sw (by decide : (37 : Nat) ≠ 36), up_up, hz, cpF_s]) hw hS ls (lv_sub hl [0, 1, 2, 3] rfl)
        exact L63 8 0 rf (by omega) (cpF_0 rf f rn a).symm _ H locs (by rw [ew4, ew3]; congr 1; exact (up_id (by rw [vu_n (by decide)]; exact a3)).symm) hw hS ls (lv_sub hl [0, 1, 3, 2] rfl)
      · have h16 : rn = 16 := (nI_eq (b := 16) (by omega) (by omega)).mp c28
        refine lv_bipush (v := (-4)) hx hb dX11_file_31 (by decide) ?_
        exact re_Q hx hb hr hlocks (rfl) hw hS dX11_file_33 (Or.inr ⟨a, ha, rfl, Or.inl ⟨c19, h16, rfl, rfl⟩⟩)
  · refine lv_bipush (v := (-2)) hx hb dX11_file_8 (by decide) ?_
    exact re_Q hx hb hr hlocks (rfl) hw hS dX11_file_10 (Or.inl ⟨c5, rfl, rfl⟩)
set_option maxHeartbeats 4000000 in
set_option maxRecDepth 100000 in
theorem k_X11_filed (l : Launch) {G : GT} {c : Nat → va_E} {n n1 rn tn n2 qn : Nat} {z hd sd fr tto tk wo iz : Int32} {im : Bool} (o1 : c 32 = .inr (9, [.ref (gad G 33), .ref (gad G 34), .ref (gad G 35), .int (nI n), .int (nI n1), .int z, .int hd, .int sd, .ref (gad G 36), .ref (gad G 37), .int (nI rn), .ref (gad G 38), .int (nI tn), .int fr, .int tto, .int tk, .int wo, .ref (gad G 39), .ref (gad G 40), .ref (gad G 41), .ref (gad G 42), .ref (gad G 43), .ref (gad G 44), .int (nI n2), .int (nI qn), .int iz, .int (bi im)])) {f : Nat → Int32} (a1 : c 33 = .inl (gI G, 132, .inl f)) (hn : n ≤ 12) {rf : Nat → Int32} {rt : Nat → Int32} (a3 : c 36 = .inl (gI G, 128, .inl rf)) (a4 : c 37 = .inl (gI G, 16, .inl rt)) (hrn : rn ≤ 16) {x w : Int32} : Met l yX11_filed (wv yX11_filed cX11_filed 4 (some .int)) ({ frames := 2, cells := 0, slots := 0, locals := 46 } : Room) (va_Pc [.ref (gad G 32), .int x, .int w] (fun U => Hw G c U U.heap)) (vp_Si (fun r => ((hasN n x && wn w 0 1) = false ∧ r = -2) ∨ (∃ a, a < n ∧ x = nI a ∧ wn w 0 1 = true ∧ r = if w = 0 then rfi rf f rn a else tat rt rn (rfi rf f rn a)))) 0 0 (fun _ => False) := by
  refine en (by decide +kernel) (by first | exact Nat.le_of_ble_eq_true rfl | decide) ?_
  intro p e s m below meth cd ls hx hb hr hml hown hts hlocks hnm hw hl
  have hl : lv_has ls 4 [(0, .ref (gad G 32)), (1, .int x), (2, .int w)] := hl
  refine lv_aload_n hx hb dX11_filed_0 rfl (lv_at hl 0 rfl) ?_
  refine lv_iload_n hx hb dX11_filed_1 rfl (lv_at hl 1 rfl) ?_
  refine cSe (rV (As := [_]) ⟨hx, hb, hml, hown, hts⟩ hw (k_X11_isClause l o1 a1 hn) (cv_X11_isClause hts tw_983 rfl rfl ⟨Nat.le_of_ble_eq_true rfl, Nat.le_of_ble_eq_true rfl⟩) (by decide) o1 rfl rfl hl.1 rfl (by first | exact Nat.le_of_ble_eq_true rfl | decide) dX11_filed_2 ⟨Nat.zero_le _, Nat.zero_le _⟩) ?_
  refine zb_eq (tgt := 17) hx hb dX11_filed_5 (by decide) (fun c5 => ?_) (fun c5 => ?_)
  · refine lv_bipush (v := (-2)) hx hb dX11_filed_17 (by decide) ?_
    exact re_S hx hb hr hlocks (rfl) dX11_filed_19 (Or.inl ⟨by simp [c5], rfl⟩)
  · refine lv_iload_n hx hb dX11_filed_8 rfl (lv_at hl 2 rfl) ?_
    refine lv_iconst (v := 0) hx hb dX11_filed_9 (by decide) ?_
    refine lv_iconst (v := 1) hx hb dX11_filed_10 (by decide) ?_
    refine cSe (rST (As := [_, _, _]) ⟨hx, hb, hml, hown, hts⟩ (k_X11_in l ) (cv_X11_in hts tw_987 rfl rfl ⟨Nat.le_of_ble_eq_true rfl, Nat.le_of_ble_eq_true rfl⟩) rfl hl.1 rfl (by first | exact Nat.le_of_ble_eq_true rfl | decide) dX11_filed_11 ⟨Nat.zero_le _, Nat.zero_le _⟩) ?_
    refine zb_ne (tgt := 20) hx hb dX11_filed_14 (by decide) (fun c14 => ?_) (fun c14 => ?_)
    · obtain ⟨a, ha, rfl⟩ := hasN_t hn c5
      refine lv_aload_n hx hb dX11_filed_20 rfl (lv_at hl 0 rfl) ?_
      refine lv_iload_n hx hb dX11_filed_21 rfl (lv_at hl 1 rfl) ?_
      refine cSe (rV (As := [_]) ⟨hx, hb, hml, hown, hts⟩ hw (k_X11_filedAt l o1 a1 hn a3 a4 hrn ha) (cv_X11_filedAt hts tw_1182 rfl rfl ⟨Nat.le_of_ble_eq_true rfl, Nat.le_of_ble_eq_true rfl⟩) (by decide) o1 rfl rfl hl.1 rfl (by first | exact Nat.le_of_ble_eq_true rfl | decide) dX11_filed_22 ⟨Nat.zero_le _, Nat.zero_le _⟩) ?_
      refine lv_istore_n (lv' := [(3, _), (0, _), (1, _), (2, _)]) hx hb dX11_filed_25 rfl hl (by decide) rfl (fun ls hl => ?_)
      refine lv_iload_n hx hb dX11_filed_26 rfl (lv_at hl 3 rfl) ?_
      refine lv_if_ne (tgt := 34) hx hb dX11_filed_27 (by decide) (fun c27 => ?_) (fun c27 => ?_)
      · refine lv_iload_n hx hb dX11_filed_34 rfl (lv_at hl 0 rfl) ?_
        refine lv_iconst (v := (-1)) hx hb dX11_filed_35 (by decide) ?_
        refine lv_icmp_ne (tgt := 43) hx hb dX11_filed_36 (by decide) (fun c36 => ?_) (fun c36 => ?_)
        · obtain ⟨q, hq1, hq2⟩ : ∃ q, q < rn ∧ rfi rf f rn a = nI q := by
            rcases fstU_or (P := fun pl => rsm rf f pl a) rn (by omega) with z | z
            · exact absurd z c36
            · exact z
          rw [hq2] at hl
          refine lv_aload_n hx hb dX11_filed_43 rfl (lv_at hl 1 rfl) ?_
          refine w_get (C := RX11) (T := TX11) (N := 27) 9 hx hb hts inX11 hown hw (by decide) o1 rfl (by decide) (hts _ tw_894) rfl dX11_filed_44 ?_
          refine lv_iload_n hx hb dX11_filed_47 rfl (lv_at hl 0 rfl) ?_
          refine w_ialdN (j := q) hx hb hw (by decide) a4 (rfl) (by omega) (by decide) dX11_filed_48 ?_
          exact re_S hx hb hr hlocks (rfl) dX11_filed_49 (Or.inr ⟨a, ha, rfl, c14, by rw [if_neg c27, hq2, tat, if_neg (nI_pos (by omega)), if_pos (nI_lt hq1 (by omega)), nI_clamp (by omega)]⟩)
        · refine lv_iconst (v := 0) hx hb dX11_filed_39 (by decide) ?_
          refine lv_goto (tgt := 49) hx hb dX11_filed_40 (by decide) ?_
          exact re_S hx hb hr hlocks (rfl) dX11_filed_49 (Or.inr ⟨a, ha, rfl, c14, by rw [if_neg c27, c36]; rfl⟩)
      · refine lv_iload_n hx hb dX11_filed_30 rfl (lv_at hl 0 rfl) ?_
        refine lv_goto (tgt := 49) hx hb dX11_filed_31 (by decide) ?_
        exact re_S hx hb hr hlocks (rfl) dX11_filed_49 (Or.inr ⟨a, ha, rfl, c14, by rw [if_pos c27]⟩)
    · refine lv_bipush (v := (-2)) hx hb dX11_filed_17 (by decide) ?_
      exact re_S hx hb hr hlocks (rfl) dX11_filed_19 (Or.inl ⟨by simp [c5, c14], rfl⟩)
set_option maxHeartbeats 4000000 in
set_option maxRecDepth 100000 in
theorem k_X11_alike (l : Launch) {G : GT} {c : Nat → va_E} {n n1 rn tn n2 qn : Nat} {z hd sd fr tto tk wo iz : Int32} {im : Bool} (o1 : c 32 = .inr (9, [.ref (gad G 33), .ref (gad G 34), .ref (gad G 35), .int (nI n), .int (nI n1), .int z, .int hd, .int sd, .ref (gad G 36), .ref (gad G 37), .int (nI rn), .ref (gad G 38), .int (nI tn), .int fr, .int tto, .int tk, .int wo, .ref (gad G 39), .ref (gad G 40), .ref (gad G 41), .ref (gad G 42), .ref (gad G 43), .ref (gad G 44), .int (nI n2), .int (nI qn), .int iz, .int (bi im)])) {f : Nat → Int32} (a1 : c 33 = .inl (gI G, 132, .inl f)) (hn : n ≤ 12)  : Met l yX11_alike (wv yX11_alike cX11_alike 7 (some .int)) ({ frames := 1, cells := 0, slots := 0, locals := 22 } : Room) (va_Pc [.ref (gad G 32)] (fun U => Hw G c U U.heap)) (vp_Si (fun r => r = nI (cntU (agn f n) n))) 0 0 (fun _ => False) := by
  refine en (by decide +kernel) (by first | exact Nat.le_of_ble_eq_true rfl | decide) ?_
  intro p e s m below meth cd ls hx hb hr hml hown hts hlocks hnm hw hl
  have hl : lv_has ls 7 [(0, .ref (gad G 32))] := hl
  refine lv_iconst (v := 0) hx hb dX11_alike_0 (by decide) ?_
  refine lv_istore_n (lv' := [(1, _), (0, _)]) hx hb dX11_alike_1 rfl hl (by decide) rfl (fun ls hl => ?_)
  refine lv_iconst (v := 0) hx hb dX11_alike_2 (by decide) ?_
  refine lv_istore_n (lv' := [(2, _), (1, _), (0, _)]) hx hb dX11_alike_3 rfl hl (by decide) rfl (fun ls hl => ?_)
  have L4 : ∀ (N : Nat) (a : Nat), (a + N = n) → ∀ ls : Array Slot, lv_has ls 7 [(2, .int (nI a)), (1, .int (nI (cntU (agn f n) a))), (0, .ref (gad G 32))] → W p l e ({ frames := 1, cells := 0, slots := 0, locals := 22 } : Room) s m (([.ref (gad G 32)] : List Value).toArray) below meth cd s.heap [] 0 0 (MQ below (vp_Si (fun r => r = nI (cntU (agn f n) n))) ([.ref (gad G 32)] : List Value).toArray s 0 0 (fun _ => False)) (F0 m 4 ls []) := by
    intro N
    induction N with
    | zero =>
      intro a  hN ls hl
      have han : a = n := by omega
      refine lv_iload_n hx hb dX11_alike_4 rfl (lv_at hl 0 rfl) ?_
      refine lv_aload_n hx hb dX11_alike_5 rfl (lv_at hl 2 rfl) ?_
      refine w_get (C := RX11) (T := TX11) (N := 27) 3 hx hb hts inX11 hown hw (by decide) o1 rfl (by decide) (hts _ tw_888) rfl dX11_alike_6 ?_
      refine lv_icmp_ge (tgt := 124) hx hb dX11_alike_9 (by decide) (fun c9 => ?_) (fun q => absurd (nI_le (by omega) (by omega)) q)
      refine lv_iload_n hx hb dX11_alike_124 rfl (lv_at hl 1 rfl) ?_
      exact re_S hx hb hr hlocks (rfl) dX11_alike_125 (by rw [han])
    | succ N ih =>
      intro a  hN ls hl
      refine lv_iload_n hx hb dX11_alike_4 rfl (lv_at hl 0 rfl) ?_
      refine lv_aload_n hx hb dX11_alike_5 rfl (lv_at hl 2 rfl) ?_
      refine w_get (C := RX11) (T := TX11) (N := 27) 3 hx hb hts inX11 hown hw (by decide) o1 rfl (by decide) (hts _ tw_888) rfl dX11_alike_6 ?_
      refine lv_icmp_ge (tgt := 124) hx hb dX11_alike_9 (by decide) (fun q => absurd q (nI_ge (by omega) (by omega))) (fun c9 => ?_)
      refine lv_iconst (v := 0) hx hb dX11_alike_12 (by decide) ?_
      refine lv_istore_n (lv' := [(3, _), (2, _), (1, _), (0, _)]) hx hb dX11_alike_13 rfl hl (by decide) rfl (fun ls hl => ?_)
      refine lv_iconst (v := 0) hx hb dX11_alike_14 (by decide) ?_
      refine lv_istore (lv' := [(4, _), (3, _), (2, _), (1, _), (0, _)]) hx hb dX11_alike_15 hl (by decide) rfl (fun ls hl => ?_)
      have L17 : ∀ (N : Nat) (b : Nat), (b + N = n) → ∀ ls : Array Slot, lv_has ls 7 [(4, .int (nI b)), (3, .int (bi (anyU (fun b => decide (b ≠ a) && sm8 f a b) b))), (2, .int (nI a)), (1, .int (nI (cntU (agn f n) a))), (0, .ref (gad G 32))] → W p l e ({ frames := 1, cells := 0, slots := 0, locals := 22 } : Room) s m (([.ref (gad G 32)] : List Value).toArray) below meth cd s.heap [] 0 0 (MQ below (vp_Si (fun r => r = nI (cntU (agn f n) n))) ([.ref (gad G 32)] : List Value).toArray s 0 0 (fun _ => False)) (F0 m 17 ls []) := by
        intro N
        induction N with
        | zero =>
          intro b  hM ls hl
          have hbn : b = n := by omega
          refine lv_iload hx hb dX11_alike_17 (lv_at hl 0 rfl) ?_
          refine lv_aload_n hx hb dX11_alike_19 rfl (lv_at hl 4 rfl) ?_
          refine w_get (C := RX11) (T := TX11) (N := 27) 3 hx hb hts inX11 hown hw (by decide) o1 rfl (by decide) (hts _ tw_888) rfl dX11_alike_20 ?_
          refine lv_icmp_ge (tgt := 106) hx hb dX11_alike_23 (by decide) (fun c23 => ?_) (fun q => absurd (nI_le (by omega) (by omega)) q)
          have C118 : ∀ ls : Array Slot, lv_has ls 7 [(2, .int (nI a)), (1, .int (nI (cntU (agn f n) (a + 1)))), (0, .ref (gad G 32))] → W p l e ({ frames := 1, cells := 0, slots := 0, locals := 22 } : Room) s m (([.ref (gad G 32)] : List Value).toArray) below meth cd s.heap [] 0 0 (MQ below (vp_Si (fun r => r = nI (cntU (agn f n) n))) ([.ref (gad G 32)] : List Value).toArray s 0 0 (fun _ => False)) (F0 m 118 ls []) := by
            intro ls hl
            refine lv_iinc (v := nI (a + 1)) (lv' := [(2, _), (1, _), (0, _)]) hx hb dX11_alike_118 hl (k := 0) rfl (inc1 a) (by decide) rfl (fun ls hl => ?_)
            refine lv_goto (tgt := 4) hx hb dX11_alike_121 (by decide) ?_
            exact ih (a + 1) (by omega) ls (lv_sub hl [0, 1, 2] rfl)
          refine lv_iload_n hx hb dX11_alike_106 rfl (lv_at hl 3 rfl) ?_
          refine lv_iload_n hx hb dX11_alike_107 rfl (lv_at hl 1 rfl) ?_
          refine zb_eq (tgt := 115) hx hb dX11_alike_108 (by decide) (fun c108 => ?_) (fun c108 => ?_)
          · refine lv_iconst (v := 0) hx hb dX11_alike_115 (by decide) ?_
            refine lv_iadd hx hb dX11_alike_116 ?_
            refine tp (y := nI (cntU (agn f n) (a + 1))) (by rw [cnt_n (show agn f n a = false by have e8 := c108; rw [hbn] at e8; exact e8)]; exact Int32.add_zero _) ?_
            refine lv_istore_n (lv' := [(1, _), (4, _), (3, _), (2, _), (0, _)]) hx hb dX11_alike_117 rfl hl (by decide) rfl (fun ls hl => ?_)
            exact C118 ls (lv_sub hl [3, 0, 4] rfl)
          · skip
            refine lv_iconst (v := 1) hx hb dX11_alike_111 (by decide) ?_
            refine lv_goto (tgt := 116) hx hb dX11_alike_112 (by decide) ?_
            refine lv_iadd hx hb dX11_alike_116 ?_
            refine tp (y := nI (cntU (agn f n) (a + 1))) (cnt_s (show agn f n a = true by have e8 := c108; rw [hbn] at e8; exact e8)) ?_
            refine lv_istore_n (lv' := [(1, _), (4, _), (3, _), (2, _), (0, _)]) hx hb dX11_alike_117 rfl hl (by decide) rfl (fun ls hl => ?_)
            exact C118 ls (lv_sub hl [3, 0, 4] rfl)
        | succ N ih =>
          intro b  hM ls hl
          refine lv_iload hx hb dX11_alike_17 (lv_at hl 0 rfl) ?_
          refine lv_aload_n hx hb dX11_alike_19 rfl (lv_at hl 4 rfl) ?_
          refine w_get (C := RX11) (T := TX11) (N := 27) 3 hx hb hts inX11 hown hw (by decide) o1 rfl (by decide) (hts _ tw_888) rfl dX11_alike_20 ?_
          refine lv_icmp_ge (tgt := 106) hx hb dX11_alike_23 (by decide) (fun q => absurd q (nI_ge (by omega) (by omega))) (fun c23 => ?_)
          have C39 : ∀ ls : Array Slot, lv_has ls 7 [(5, .int (bi (decide (b ≠ a) && allU (fun i => decide (f (a * 11 + i) = f (b * 11 + i))) 0))), (4, .int (nI b)), (3, .int (bi (anyU (fun b => decide (b ≠ a) && sm8 f a b) b))), (2, .int (nI a)), (1, .int (nI (cntU (agn f n) a))), (0, .ref (gad G 32))] → W p l e ({ frames := 1, cells := 0, slots := 0, locals := 22 } : Room) s m (([.ref (gad G 32)] : List Value).toArray) below meth cd s.heap [] 0 0 (MQ below (vp_Si (fun r => r = nI (cntU (agn f n) n))) ([.ref (gad G 32)] : List Value).toArray s 0 0 (fun _ => False)) (F0 m 39 ls []) := by
            intro ls hl
            refine lv_iconst (v := 0) hx hb dX11_alike_39 (by decide) ?_
            refine lv_istore (lv' := [(6, _), (5, _), (4, _), (3, _), (2, _), (1, _), (0, _)]) hx hb dX11_alike_40 hl (by decide) rfl (fun ls hl => ?_)
            have L42 : ∀ (N : Nat) (j : Nat), (j + N = 8) → ∀ ls : Array Slot, lv_has ls 7 [(6, .int (nI j)), (5, .int (bi (decide (b ≠ a) && allU (fun i => decide (f (a * 11 + i) = f (b * 11 + i))) j))), (4, .int (nI b)), (3, .int (bi (anyU (fun b => decide (b ≠ a) && sm8 f a b) b))), (2, .int (nI a)), (1, .int (nI (cntU (agn f n) a))), (0, .ref (gad G 32))] → W p l e ({ frames := 1, cells := 0, slots := 0, locals := 22 } : Room) s m (([.ref (gad G 32)] : List Value).toArray) below meth cd s.heap [] 0 0 (MQ below (vp_Si (fun r => r = nI (cntU (agn f n) n))) ([.ref (gad G 32)] : List Value).toArray s 0 0 (fun _ => False)) (F0 m 42 ls []) := by
              intro N
              induction N with
              | zero =>
                intro j  hK ls hl
                have hj8 : j = 8 := by omega
                refine lv_iload hx hb dX11_alike_42 (lv_at hl 0 rfl) ?_
                refine lv_bipush (v := 8) hx hb dX11_alike_44 (by decide) ?_
                refine lv_icmp_ge (tgt := 85) hx hb dX11_alike_46 (by decide) (fun c46 => ?_) (fun q => absurd (nI_le (a := 8) (by omega) (by omega)) q)
                have C100 : ∀ ls : Array Slot, lv_has ls 7 [(4, .int (nI b)), (3, .int (bi (anyU (fun b => decide (b ≠ a) && sm8 f a b) (b + 1)))), (2, .int (nI a)), (1, .int (nI (cntU (agn f n) a))), (0, .ref (gad G 32))] → W p l e ({ frames := 1, cells := 0, slots := 0, locals := 22 } : Room) s m (([.ref (gad G 32)] : List Value).toArray) below meth cd s.heap [] 0 0 (MQ below (vp_Si (fun r => r = nI (cntU (agn f n) n))) ([.ref (gad G 32)] : List Value).toArray s 0 0 (fun _ => False)) (F0 m 100 ls []) := by
                  intro ls hl
                  refine lv_iinc (v := nI (b + 1)) (lv' := [(4, _), (3, _), (2, _), (1, _), (0, _)]) hx hb dX11_alike_100 hl (k := 0) rfl (inc1 b) (by decide) rfl (fun ls hl => ?_)
                  refine lv_goto (tgt := 17) hx hb dX11_alike_103 (by decide) ?_
                  exact ih (b + 1) (by omega) ls (lv_sub hl [0, 1, 2, 3, 4] rfl)
                refine lv_iload_n hx hb dX11_alike_85 rfl (lv_at hl 3 rfl) ?_
                refine zb_ne (tgt := 94) hx hb dX11_alike_86 (by decide) (fun c86 => ?_) (fun c86 => ?_)
                · skip
                  refine lv_iconst (v := 1) hx hb dX11_alike_94 (by decide) ?_
                  refine lv_goto (tgt := 99) hx hb dX11_alike_95 (by decide) ?_
                  refine tp (y := bi (anyU (fun b => decide (b ≠ a) && sm8 f a b) (b + 1))) (bi_tt (by rw [anyU, c86]; rfl)) ?_
                  refine lv_istore_n (lv' := [(3, _), (6, _), (5, _), (4, _), (2, _), (1, _), (0, _)]) hx hb dX11_alike_99 rfl hl (by decide) rfl (fun ls hl => ?_)
                  exact C100 ls (lv_sub hl [3, 0, 4, 5, 6] rfl)
                · refine lv_iload hx hb dX11_alike_89 (lv_at hl 1 rfl) ?_
                  refine zb_eq (tgt := 98) hx hb dX11_alike_91 (by decide) (fun c91 => ?_) (fun c91 => ?_)
                  · refine lv_iconst (v := 0) hx hb dX11_alike_98 (by decide) ?_
                    refine tp (y := bi (anyU (fun b => decide (b ≠ a) && sm8 f a b) (b + 1))) (bi_and (by have e8 := c91; rw [hj8] at e8; rw [anyU, c86]; exact e8)) ?_
                    refine lv_istore_n (lv' := [(3, _), (6, _), (5, _), (4, _), (2, _), (1, _), (0, _)]) hx hb dX11_alike_99 rfl hl (by decide) rfl (fun ls hl => ?_)
                    exact C100 ls (lv_sub hl [3, 0, 4, 5, 6] rfl)
                  · skip
                    refine lv_iconst (v := 1) hx hb dX11_alike_94 (by decide) ?_
                    refine lv_goto (tgt := 99) hx hb dX11_alike_95 (by decide) ?_
                    refine tp (y := bi (anyU (fun b => decide (b ≠ a) && sm8 f a b) (b + 1))) (bi_tt (by have e8 := c91; rw [hj8] at e8; rw [anyU, c86]; exact e8)) ?_
                    refine lv_istore_n (lv' := [(3, _), (6, _), (5, _), (4, _), (2, _), (1, _), (0, _)]) hx hb dX11_alike_99 rfl hl (by decide) rfl (fun ls hl => ?_)
                    exact C100 ls (lv_sub hl [3, 0, 4, 5, 6] rfl)
              | succ N ih =>
                intro j  hK ls hl
                refine lv_iload hx hb dX11_alike_42 (lv_at hl 0 rfl) ?_
                refine lv_bipush (v := 8) hx hb dX11_alike_44 (by decide) ?_
                refine lv_icmp_ge (tgt := 85) hx hb dX11_alike_46 (by decide) (fun q => absurd q (nI_ge (b := 8) (by omega) (by omega))) (fun c46 => ?_)
                have C79 : ∀ ls : Array Slot, lv_has ls 7 [(6, .int (nI j)), (5, .int (bi (decide (b ≠ a) && allU (fun i => decide (f (a * 11 + i) = f (b * 11 + i))) (j + 1)))), (4, .int (nI b)), (3, .int (bi (anyU (fun b => decide (b ≠ a) && sm8 f a b) b))), (2, .int (nI a)), (1, .int (nI (cntU (agn f n) a))), (0, .ref (gad G 32))] → W p l e ({ frames := 1, cells := 0, slots := 0, locals := 22 } : Room) s m (([.ref (gad G 32)] : List Value).toArray) below meth cd s.heap [] 0 0 (MQ below (vp_Si (fun r => r = nI (cntU (agn f n) n))) ([.ref (gad G 32)] : List Value).toArray s 0 0 (fun _ => False)) (F0 m 79 ls []) := by
                  intro ls hl
                  refine lv_iinc (v := nI (j + 1)) (lv' := [(6, _), (5, _), (4, _), (3, _), (2, _), (1, _), (0, _)]) hx hb dX11_alike_79 hl (k := 0) rfl (inc1 j) (by decide) rfl (fun ls hl => ?_)
                  refine lv_goto (tgt := 42) hx hb dX11_alike_82 (by decide) ?_
                  exact ih (j + 1) (by omega) ls (lv_sub hl [0, 1, 2, 3, 4, 5, 6] rfl)
                refine lv_iload hx hb dX11_alike_49 (lv_at hl 1 rfl) ?_
                refine zb_eq (tgt := 76) hx hb dX11_alike_51 (by decide) (fun c51 => ?_) (fun c51 => ?_)
                · refine lv_iconst (v := 0) hx hb dX11_alike_76 (by decide) ?_
                  refine tp (y := bi (decide (b ≠ a) && allU (fun i => decide (f (a * 11 + i) = f (b * 11 + i))) (j + 1))) (bi_and (by rw [← allU_t, c51]; rfl)) ?_
                  refine lv_istore (lv' := [(5, _), (6, _), (4, _), (3, _), (2, _), (1, _), (0, _)]) hx hb dX11_alike_77 hl (by decide) rfl (fun ls hl => ?_)
                  exact C79 ls (lv_sub hl [1, 0, 2, 3, 4, 5, 6] rfl)
                · refine lv_aload_n hx hb dX11_alike_54 rfl (lv_at hl 6 rfl) ?_
                  refine lv_iload_n hx hb dX11_alike_55 rfl (lv_at hl 4 rfl) ?_
                  refine lv_iload hx hb dX11_alike_56 (lv_at hl 0 rfl) ?_
                  refine cSe (rV (As := [_, _]) ⟨hx, hb, hml, hown, hts⟩ hw (k_X11_is l o1 a1 hn (ixm a j) (by omega)) (cv_X11_is hts tw_993 rfl rfl ⟨Nat.le_of_ble_eq_true rfl, Nat.le_of_ble_eq_true rfl⟩) (by decide) o1 rfl rfl hl.1 rfl (by first | exact Nat.le_of_ble_eq_true rfl | decide) dX11_alike_58 ⟨Nat.zero_le _, Nat.zero_le _⟩) ?_
                  refine lv_aload_n hx hb dX11_alike_61 rfl (lv_at hl 6 rfl) ?_
                  refine lv_iload hx hb dX11_alike_62 (lv_at hl 2 rfl) ?_
                  refine lv_iload hx hb dX11_alike_64 (lv_at hl 0 rfl) ?_
                  refine cSe (rV (As := [_, _]) ⟨hx, hb, hml, hown, hts⟩ hw (k_X11_is l o1 a1 hn (ixm b j) (by omega)) (cv_X11_is hts tw_993 rfl rfl ⟨Nat.le_of_ble_eq_true rfl, Nat.le_of_ble_eq_true rfl⟩) (by decide) o1 rfl rfl hl.1 rfl (by first | exact Nat.le_of_ble_eq_true rfl | decide) dX11_alike_66 ⟨Nat.zero_le _, Nat.zero_le _⟩) ?_
                  refine lv_icmp_ne (tgt := 76) hx hb dX11_alike_69 (by decide) (fun c69 => ?_) (fun c69 => ?_)
                  · refine lv_iconst (v := 0) hx hb dX11_alike_76 (by decide) ?_
                    refine tp (y := bi (decide (b ≠ a) && allU (fun i => decide (f (a * 11 + i) = f (b * 11 + i))) (j + 1))) (bi_and (by rw [← allU_t, c51]; simp [c69])) ?_
                    refine lv_istore (lv' := [(5, _), (6, _), (4, _), (3, _), (2, _), (1, _), (0, _)]) hx hb dX11_alike_77 hl (by decide) rfl (fun ls hl => ?_)
                    exact C79 ls (lv_sub hl [1, 0, 2, 3, 4, 5, 6] rfl)
                  · refine lv_iconst (v := 1) hx hb dX11_alike_72 (by decide) ?_
                    refine lv_goto (tgt := 77) hx hb dX11_alike_73 (by decide) ?_
                    refine tp (y := bi (decide (b ≠ a) && allU (fun i => decide (f (a * 11 + i) = f (b * 11 + i))) (j + 1))) (bi_tt (by rw [← allU_t, c51]; simp [c69])) ?_
                    refine lv_istore (lv' := [(5, _), (6, _), (4, _), (3, _), (2, _), (1, _), (0, _)]) hx hb dX11_alike_77 hl (by decide) rfl (fun ls hl => ?_)
                    exact C79 ls (lv_sub hl [1, 0, 2, 3, 4, 5, 6] rfl)
            exact L42 8 0 (by omega) ls (lv_sub hl [0, 1, 2, 3, 4, 5, 6] rfl)
          refine lv_iload hx hb dX11_alike_26 (lv_at hl 0 rfl) ?_
          refine lv_iload_n hx hb dX11_alike_28 rfl (lv_at hl 2 rfl) ?_
          refine lv_icmp_eq (tgt := 36) hx hb dX11_alike_29 (by decide) (fun c29 => ?_) (fun c29 => ?_)
          · refine lv_iconst (v := 0) hx hb dX11_alike_36 (by decide) ?_
            refine tp (y := bi (decide (b ≠ a) && allU (fun i => decide (f (a * 11 + i) = f (b * 11 + i))) 0)) (bi_and (by have e8 : b = a := (nI_eq (by omega) (by omega)).mp c29; simp [e8])) ?_
            refine lv_istore (lv' := [(5, _), (4, _), (3, _), (2, _), (1, _), (0, _)]) hx hb dX11_alike_37 hl (by decide) rfl (fun ls hl => ?_)
            exact C39 ls (lv_sub hl [0, 1, 2, 3, 4, 5] rfl)
          · refine lv_iconst (v := 1) hx hb dX11_alike_32 (by decide) ?_
            refine lv_goto (tgt := 37) hx hb dX11_alike_33 (by decide) ?_
            refine tp (y := bi (decide (b ≠ a) && allU (fun i => decide (f (a * 11 + i) = f (b * 11 + i))) 0)) (bi_tt (by have e8 : b ≠ a := fun q => c29 (by rw [q]); simp [e8, allU])) ?_
            refine lv_istore (lv' := [(5, _), (4, _), (3, _), (2, _), (1, _), (0, _)]) hx hb dX11_alike_37 hl (by decide) rfl (fun ls hl => ?_)
            exact C39 ls (lv_sub hl [0, 1, 2, 3, 4, 5] rfl)
      exact L17 n 0 (by omega) ls (lv_sub hl [0, 1, 2, 3, 4] rfl)
  exact L4 n 0 (by omega) ls (lv_sub hl [0, 1, 2] rfl)
set_option maxHeartbeats 4000000 in
set_option maxRecDepth 100000 in
theorem k_X11_feed (l : Launch) {G : GT} {c : Nat → va_E} {n n1 rn tn n2 qn : Nat} {z hd sd fr tto tk wo iz : Int32} {im : Bool} (o1 : c 32 = .inr (9, [.ref (gad G 33), .ref (gad G 34), .ref (gad G 35), .int (nI n), .int (nI n1), .int z, .int hd, .int sd, .ref (gad G 36), .ref (gad G 37), .int (nI rn), .ref (gad G 38), .int (nI tn), .int fr, .int tto, .int tk, .int wo, .ref (gad G 39), .ref (gad G 40), .ref (gad G 41), .ref (gad G 42), .ref (gad G 43), .ref (gad G 44), .int (nI n2), .int (nI qn), .int iz, .int (bi im)])) {tf : Nat → Int32} (a5 : c 38 = .inl (gI G, 120, .inl tf)) (htn : tn ≤ 120) {v w : Int32} : Met l yX11_feed (wv yX11_feed cX11_feed 4 (some .int)) ({ frames := 1, cells := 0, slots := 0, locals := 22 } : Room) (va_Pc [.ref (gad G 32), .int v, .int w] (fun U => Hw G c U U.heap)) (va_Qi (fun r (c9 : Nat → va_E) => (wn w 1 4 = false ∧ r = -2 ∧ c9 = c) ∨ (∃ j9 : Nat, 1 ≤ j9 ∧ j9 ≤ 4 ∧ w = nI j9 ∧ ((120 < tn + j9 ∧ r = -4 ∧ c9 = c) ∨ (tn + j9 ≤ 120 ∧ r = nI (tn + j9) ∧ c9 = va_up (va_up c 38 (.inl (gI G, 120, .inl (fdF tf tn v j9 j9)))) 32 (.inr (9, [.ref (gad G 33), .ref (gad G 34), .ref (gad G 35), .int (nI n), .int (nI n1), .int z, .int hd, .int sd, .ref (gad G 36), .ref (gad G 37), .int (nI rn), .ref (gad G 38), .int (nI (tn + j9)), .int fr, .int tto, .int tk, .int wo, .ref (gad G 39), .ref (gad G 40), .ref (gad G 41), .ref (gad G 42), .ref (gad G 43), .ref (gad G 44), .int (nI n2), .int (nI qn), .int iz, .int (bi im)])))))) (fun c9 t => Hw G c9 t t.heap) (gA G)) 0 0 (gA G) := by
  refine en (by decide +kernel) (by first | exact Nat.le_of_ble_eq_true rfl | decide) ?_
  intro p e s m below meth cd ls hx hb hr hml hown hts hlocks hnm hw hl
  have hl : lv_has ls 4 [(0, .ref (gad G 32)), (1, .int v), (2, .int w)] := hl
  have hX : Sw G s s.heap := hw.2.2.2.2.2
  have hS : va_S (gA G) s.heap s.heap [] := va_S.rf
  obtain ⟨H, hH⟩ : ∃ wz9, wz9 = s.heap := ⟨_, rfl⟩
  obtain ⟨locs, hlocs⟩ : ∃ wz9 : List Loc, wz9 = [] := ⟨_, rfl⟩
  have hw : Hw G c s H := by rw [hH]; exact hw
  have hS : va_S (gA G) s.heap H locs := by rw [hH, hlocs]; exact hS
  suffices hgo : W p l e ({ frames := 1, cells := 0, slots := 0, locals := 22 } : Room) s m (([.ref (gad G 32), .int v, .int w] : List Value).toArray) below meth cd H locs 0 0 (MQ below (va_Qi (fun r (c9 : Nat → va_E) => (wn w 1 4 = false ∧ r = -2 ∧ c9 = c) ∨ (∃ j9 : Nat, 1 ≤ j9 ∧ j9 ≤ 4 ∧ w = nI j9 ∧ ((120 < tn + j9 ∧ r = -4 ∧ c9 = c) ∨ (tn + j9 ≤ 120 ∧ r = nI (tn + j9) ∧ c9 = va_up (va_up c 38 (.inl (gI G, 120, .inl (fdF tf tn v j9 j9)))) 32 (.inr (9, [.ref (gad G 33), .ref (gad G 34), .ref (gad G 35), .int (nI n), .int (nI n1), .int z, .int hd, .int sd, .ref (gad G 36), .ref (gad G 37), .int (nI rn), .ref (gad G 38), .int (nI (tn + j9)), .int fr, .int tto, .int tk, .int wo, .ref (gad G 39), .ref (gad G 40), .ref (gad G 41), .ref (gad G 42), .ref (gad G 43), .ref (gad G 44), .int (nI n2), .int (nI qn), .int iz, .int (bi im)])))))) (fun c9 t => Hw G c9 t t.heap) (gA G)) ([.ref (gad G 32), .int v, .int w] : List Value).toArray s 0 0 (gA G)) (F0 m 0 ls []) by rw [hH, hlocs] at hgo; exact hgo
  refine lv_iload_n hx hb dX11_feed_0 rfl (lv_at hl 2 rfl) ?_
  refine lv_iconst (v := 1) hx hb dX11_feed_1 (by decide) ?_
  refine lv_iconst (v := 4) hx hb dX11_feed_2 (by decide) ?_
  refine cSe (rST (As := [_, _, _]) ⟨hx, hb, hml, hown, hts⟩ (k_X11_in l ) (cv_X11_in hts tw_987 rfl rfl ⟨Nat.le_of_ble_eq_true rfl, Nat.le_of_ble_eq_true rfl⟩) rfl hl.1 rfl (by first | exact Nat.le_of_ble_eq_true rfl | decide) dX11_feed_3 ⟨Nat.zero_le _, Nat.zero_le _⟩) ?_
  refine zb_ne (tgt := 12) hx hb dX11_feed_6 (by decide) (fun c6 => ?_) (fun c6 => ?_)
  · obtain ⟨k, hk1, hk2, rfl⟩ := wn_nI (a := 1) (b := 4) (by decide) (by decide) c6
    refine lv_aload_n hx hb dX11_feed_12 rfl (lv_at hl 0 rfl) ?_
    refine w_get (C := RX11) (T := TX11) (N := 27) 12 hx hb hts inX11 hown hw (by decide) o1 rfl (by decide) (hts _ tw_897) rfl dX11_feed_13 ?_
    refine lv_iload_n hx hb dX11_feed_16 rfl (lv_at hl 2 rfl) ?_
    refine lv_iadd hx hb dX11_feed_17 ?_
    refine lv_bipush (v := 120) hx hb dX11_feed_18 (by decide) ?_
    refine tp2 (y := nI (tn + k)) (nI_add tn k) ?_
    refine lv_icmp_le (tgt := 26) hx hb dX11_feed_20 (by decide) (fun c20 => ?_) (fun c20 => ?_)
    · have hle : tn + k ≤ 120 := (nI_leI (b := 120) (by omega) (by omega)).mp c20
      refine lv_iload_n hx hb dX11_feed_26 rfl (lv_at hl 2 rfl) ?_
      refine lv_iconst (v := 1) hx hb dX11_feed_27 (by decide) ?_
      refine lv_isub hx hb dX11_feed_28 ?_
      refine lv_istore_n (lv' := [(3, _), (0, _), (1, _), (2, _)]) hx hb dX11_feed_29 rfl hl (by decide) rfl (fun ls hl => ?_)
      have L30 : ∀ (N : Nat) (fz : Nat → Int32), (N ≤ k) → (fz = fdF tf tn v k (k - N)) → ∀ (c0 : Nat → va_E) (H : Heap) (locs : List Loc), (c0 = va_up (va_up c 38 (.inl (gI G, 120, .inl fz))) 32 (.inr (9, [.ref (gad G 33), .ref (gad G 34), .ref (gad G 35), .int (nI n), .int (nI n1), .int z, .int hd, .int sd, .ref (gad G 36), .ref (gad G 37), .int (nI rn), .ref (gad G 38), .int (nI (tn + (k - N))), .int fr, .int tto, .int tk, .int wo, .ref (gad G 39), .ref (gad G 40), .ref (gad G 41), .ref (gad G 42), .ref (gad G 43), .ref (gad G 44), .int (nI n2), .int (nI qn), .int iz, .int (bi im)]))) → Hw G c0 s H → va_S (gA G) s.heap H locs → ∀ ls : Array Slot, lv_has ls 4 [(3, .int (nI N - 1)), (2, .int (nI k)), (1, .int v), (0, .ref (gad G 32))] → W p l e ({ frames := 1, cells := 0, slots := 0, locals := 22 } : Room) s m (([.ref (gad G 32), .int v, .int (nI k)] : List Value).toArray) below meth cd H locs 0 0 (MQ below (va_Qi (fun r (c9 : Nat → va_E) => (wn (nI k) 1 4 = false ∧ r = -2 ∧ c9 = c) ∨ (∃ j9 : Nat, 1 ≤ j9 ∧ j9 ≤ 4 ∧ (nI k) = nI j9 ∧ ((120 < tn + j9 ∧ r = -4 ∧ c9 = c) ∨ (tn + j9 ≤ 120 ∧ r = nI (tn + j9) ∧ c9 = va_up (va_up c 38 (.inl (gI G, 120, .inl (fdF tf tn v j9 j9)))) 32 (.inr (9, [.ref (gad G 33), .ref (gad G 34), .ref (gad G 35), .int (nI n), .int (nI n1), .int z, .int hd, .int sd, .ref (gad G 36), .ref (gad G 37), .int (nI rn), .ref (gad G 38), .int (nI (tn + j9)), .int fr, .int tto, .int tk, .int wo, .ref (gad G 39), .ref (gad G 40), .ref (gad G 41), .ref (gad G 42), .ref (gad G 43), .ref (gad G 44), .int (nI n2), .int (nI qn), .int iz, .int (bi im)])))))) (fun c9 t => Hw G c9 t t.heap) (gA G)) ([.ref (gad G 32), .int v, .int (nI k)] : List Value).toArray s 0 0 (gA G)) (F0 m 30 ls []) := by
        intro N
        induction N with
        | zero =>
          intro fz  hN hz c0 H locs e0 hw hS ls hl
          have o1 : c0 32 = .inr (9, [.ref (gad G 33), .ref (gad G 34), .ref (gad G 35), .int (nI n), .int (nI n1), .int z, .int hd, .int sd, .ref (gad G 36), .ref (gad G 37), .int (nI rn), .ref (gad G 38), .int (nI (tn + k)), .int fr, .int tto, .int tk, .int wo, .ref (gad G 39), .ref (gad G 40), .ref (gad G 41), .ref (gad G 42), .ref (gad G 43), .ref (gad G 44), .int (nI n2), .int (nI qn), .int iz, .int (bi im)]) := by rw [e0]; exact vu_s
          refine lv_iload_n hx hb dX11_feed_30 rfl (lv_at hl 0 rfl) ?_
          refine lv_if_lt (tgt := 69) hx hb dX11_feed_31 (by decide) (fun c31 => ?_) (fun q => absurd (by decide) q)
          refine lv_aload_n hx hb dX11_feed_69 rfl (lv_at hl 3 rfl) ?_
          refine w_get (C := RX11) (T := TX11) (N := 27) 12 hx hb hts inX11 hown hw (by decide) o1 rfl (by decide) (hts _ tw_897) rfl dX11_feed_70 ?_
          exact re_Q hx hb hr hlocks (rfl) hw hS dX11_feed_73 (Or.inr ⟨k, hk1, hk2, rfl, Or.inr ⟨hle, rfl, by rw [e0, hz]; rfl⟩⟩)
        | succ N ih =>
          intro fz  hN hz c0 H locs e0 hw hS ls hl
          rw [nI_pred] at hl
          have o1 : c0 32 = .inr (9, [.ref (gad G 33), .ref (gad G 34), .ref (gad G 35), .int (nI n), .int (nI n1), .int z, .int hd, .int sd, .ref (gad G 36), .ref (gad G 37), .int (nI rn), .ref (gad G 38), .int (nI (tn + (k - (N + 1)))), .int fr, .int tto, .int tk, .int wo, .ref (gad G 39), .ref (gad G 40), .ref (gad G 41), .ref (gad G 42), .ref (gad G 43), .ref (gad G 44), .int (nI n2), .int (nI qn), .int iz, .int (bi im)]) := by rw [e0]; exact vu_s
          have a5 : c0 38 = .inl (gI G, 120, .inl fz) := by rw [e0]; exact vu_e (by decide) vu_s
          refine lv_iload_n hx hb dX11_feed_30 rfl (lv_at hl 0 rfl) ?_
          refine lv_if_lt (tgt := 69) hx hb dX11_feed_31 (by decide) (fun q => absurd q (nI_pos (by omega))) (fun c31 => ?_)
          refine lv_aload_n hx hb dX11_feed_34 rfl (lv_at hl 3 rfl) ?_
          refine w_get (C := RX11) (T := TX11) (N := 27) 11 hx hb hts inX11 hown hw (by decide) o1 rfl (by decide) (hts _ tw_896) rfl dX11_feed_35 ?_
          refine lv_aload_n hx hb dX11_feed_38 rfl (lv_at hl 3 rfl) ?_
          refine w_get (C := RX11) (T := TX11) (N := 27) 12 hx hb hts inX11 hown hw (by decide) o1 rfl (by decide) (hts _ tw_897) rfl dX11_feed_39 ?_
          refine lv_iload_n hx hb dX11_feed_42 rfl (lv_at hl 2 rfl) ?_
          refine lv_bipush (v := 8) hx hb dX11_feed_43 (by decide) ?_
          refine lv_iload_n hx hb dX11_feed_45 rfl (lv_at hl 0 rfl) ?_
          refine lv_imul hx hb dX11_feed_46 ?_
          refine lv_ishr hx hb dX11_feed_47 ?_
          refine lv_sipush (v := 255) hx hb dX11_feed_48 (by decide) ?_
          refine lv_iand hx hb dX11_feed_51 ?_
          refine tp (y := byt v N) (byt_m v (by omega)) ?_
          refine w_iastN (j := tn + (k - (N + 1))) (x := byt v N) hx hb hw hX hS (by decide) a5 (rfl) (by omega) (by decide) dX11_feed_52 (fun H locs hw hS => ?_)
          obtain ⟨w1, ew1⟩ : ∃ wz9 : Nat → va_E, wz9 = va_up c0 38 (.inl (gI G, 120, .inl (upd fz (tn + (k - (N + 1))) (byt v N)))) := ⟨_, rfl⟩
          have hw : Hw G w1 s H := by rw [ew1]; exact hw
          have o1_1 : w1 32 = .inr (9, [.ref (gad G 33), .ref (gad G 34), .ref (gad G 35), .int (nI n), .int (nI n1), .int z, .int hd, .int sd, .ref (gad G 36), .ref (gad G 37), .int (nI rn), .ref (gad G 38), .int (nI (tn + (k - (N + 1)))), .int fr, .int tto, .int tk, .int wo, .ref (gad G 39), .ref (gad G 40), .ref (gad G 41), .ref (gad G 42), .ref (gad G 43), .ref (gad G 44), .int (nI n2), .int (nI qn), .int iz, .int (bi im)]) := by rw [ew1]; exact vu_e (by decide) o1
          have a5_1 : w1 38 = .inl (gI G, 120, .inl (upd fz (tn + (k - (N + 1))) (byt v N))) := by rw [ew1]; exact vu_s
          refine lv_aload_n hx hb dX11_feed_53 rfl (lv_at hl 3 rfl) ?_
          refine lv_dup hx hb dX11_feed_54 rfl ?_
          refine w_get (C := RX11) (T := TX11) (N := 27) 12 hx hb hts inX11 hown hw (by decide) o1_1 rfl (by decide) (hts _ tw_897) rfl dX11_feed_55 ?_
          refine lv_iconst (v := 1) hx hb dX11_feed_58 (by decide) ?_
          refine lv_iadd hx hb dX11_feed_59 ?_
          refine tp (y := nI (tn + (k - (N + 1)) + 1)) (nI_1 _) ?_
          refine w_put (C := RX11) (T := TX11) (N := 27) (v := .int (nI (tn + (k - (N + 1)) + 1))) 12 tyX11 hx hb hts inX11 tyX11_ok nmX11 hown hw hX hS (by decide) o1_1 rfl (by decide) (hts _ tw_897) rfl rfl (rfl) (rfl) (Nat.le_of_ble_eq_true rfl) dX11_feed_60 (fun H locs hw hS => ?_)
          obtain ⟨w3, ew3⟩ : ∃ wz9 : Nat → va_E, wz9 = va_up w1 32 (.inr (9, [.ref (gad G 33), .ref (gad G 34), .ref (gad G 35), .int (nI n), .int (nI n1), .int z, .int hd, .int sd, .ref (gad G 36), .ref (gad G 37), .int (nI rn), .ref (gad G 38), .int (nI (tn + (k - (N + 1)) + 1)), .int fr, .int tto, .int tk, .int wo, .ref (gad G 39), .ref (gad G 40), .ref (gad G 41), .ref (gad G 42), .ref (gad G 43), .ref (gad G 44), .int (nI n2), .int (nI qn), .int iz, .int (bi im)])) := ⟨_, rfl⟩
          have hw : Hw G w3 s H := by rw [ew3]; exact hw
          have o1_3 : w3 32 = .inr (9, [.ref (gad G 33), .ref (gad G 34), .ref (gad G 35), .int (nI n), .int (nI n1), .int z, .int hd, .int sd, .ref (gad G 36), .ref (gad G 37), .int (nI rn), .ref (gad G 38), .int (nI (tn + (k - (N + 1)) + 1)), .int fr, .int tto, .int tk, .int wo, .ref (gad G 39), .ref (gad G 40), .ref (gad G 41), .ref (gad G 42), .ref (gad G 43), .ref (gad G 44), .int (nI n2), .int (nI qn), .int iz, .int (bi im)]) := by rw [ew3]; exact vu_s
          have a5_3 : w3 38 = .inl (gI G, 120, .inl (upd fz (tn + (k - (N + 1))) (byt v N))) := by rw [ew3]; exact vu_e (by decide) a5_1
          refine lv_iinc (v := nI N - 1) (lv' := [(3, _), (2, _), (1, _), (0, _)]) hx hb dX11_feed_63 hl (k := 0) rfl (incm _) (by decide) rfl (fun ls hl => ?_)
          refine lv_goto (tgt := 30) hx hb dX11_feed_66 (by decide) ?_
          exact ih (fdF tf tn v k (k - N)) (by omega) rfl _ H locs (by rw [ew3, ew1, e0, hz, up_sw (by decide : (32 : Nat) ≠ 38), up_up, up_up, show tn + (k - (N + 1)) + 1 = tn + (k - N) by omega, show byt v N = byt v (k - 1 - (k - (N + 1))) by rw [show k - 1 - (k - (N + 1)) = N by omega], fdF_s, show k - (N + 1) + 1 = k - N by omega]) hw hS ls (lv_sub hl [0, 1, 2, 3] rfl)
      exact L30 k tf (Nat.le_refl k) (by rw [Nat.sub_self, fdF_0]) _ H locs (by rw [Nat.sub_self, up_id a5]; exact (up_id o1).symm) hw hS ls (lv_sub hl [0, 3, 2, 1] rfl)
    · have hgt : 120 < tn + k := (nI_ltI (a := 120) (by omega) (by omega)).mp (Int32.not_le.mp c20)
      refine lv_bipush (v := (-4)) hx hb dX11_feed_23 (by decide) ?_
      exact re_Q hx hb hr hlocks (rfl) hw hS dX11_feed_25 (Or.inr ⟨k, hk1, hk2, rfl, Or.inl ⟨hgt, rfl, rfl⟩⟩)
  · refine lv_bipush (v := (-2)) hx hb dX11_feed_9 (by decide) ?_
    exact re_Q hx hb hr hlocks (rfl) hw hS dX11_feed_11 (Or.inl ⟨c6, rfl, rfl⟩)
