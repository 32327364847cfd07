/-! CLAUSES: an object at place k, its cells at place j -/
def hasN (n : Nat) (x : Int32) : Bool := !decide (x < 0) && decide (x < nI n)
theorem hasN_t {n : Nat} {x : Int32} (hn : n ≤ 12) (h : hasN n x = true) : ∃ q, q < n ∧ x = nI q := by
  unfold hasN at h
  simp only [Bool.and_eq_true, Bool.not_eq_true', decide_eq_false_iff_not, decide_eq_true_eq] at h
  rcases pk_ix x (n := n) (by omega) with h1 | h1 | h1
  · exact absurd h1 h.1
  · exact absurd h.2 (Int32.not_lt.mpr h1)
  · exact h1
theorem up_up {α : Type} (f : Nat → α) (k : Nat) (v w : α) : va_up (va_up f k v) k w = va_up f k w := bx_uu f k v w
theorem up_id {α : Type} {f : Nat → α} {k : Nat} {v : α} (h : f k = v) : va_up f k v = f := by
  funext j
  unfold va_up
  by_cases q : j = k
  · rw [if_pos q, q, h]
  · rw [if_neg q]
theorem sb_arrV {cI : ClassId} {n : Nat} {g g' : Nat → Int32} (he : ∀ q, q < n → g q = g' q) : arrV cI n (fun j => .int (g j)) = arrV cI n (fun j => .int (g' j)) := by
  unfold arrV
  congr 1
  congr 1
  funext j
  show Value.int (g j.1) = Value.int (g' j.1)
  rw [he j.1 j.2]
/-- another way to say what an array holds -/
theorem Hw.ext {G : GT} {c : Nat → va_E} {s : State} {H : Heap} {j n : Nat} {g g' : Nat → Int32} (hj : j < 45) (h : Hw G (va_up c j (.inl (gI G, n, .inl g))) s H) (he : ∀ q, q < n → g q = g' q) : Hw G (va_up c j (.inl (gI G, n, .inl g'))) s H := by
  refine ⟨?_, h.2.1, ?_, h.2.2.2⟩
  · intro k q hq
    by_cases hk : k < 45
    · rw [cw_at hk] at hq
      cases hq
      by_cases hkj : k = j
      · subst hkj
        have h1 := h.1 k _ (cw_at hk)
        rw [vu_s] at h1 ⊢
        show H[gad G k]? = some (arrV (gI G) n fun j => .int (g' j))
        have h2 : H[gad G k]? = some (arrV (gI G) n fun j => .int (g j)) := h1
        rw [h2]
        congr 1
        exact sb_arrV he
      · have h1 := h.1 k _ (cw_at hk)
        rw [vu_n hkj] at h1 ⊢
        exact h1
    · rw [List.getElem?_eq_none (by rw [cw_len]; omega)] at hq
      cases hq
  · have h2 := h.2.2.1
    refine ⟨fun i k p q hp hq hpq => ?_, fun k q hq => ?_⟩
    · have hi : i < 45 := by
        rcases Nat.lt_or_ge i 45 with q | q
        · exact q
        · rw [List.getElem?_eq_none (by rw [cw_len]; omega)] at hp; cases hp
      have hk : k < 45 := by
        rcases Nat.lt_or_ge k 45 with q | q
        · exact q
        · rw [List.getElem?_eq_none (by rw [cw_len]; omega)] at hq; cases hq
      rw [cw_at hi] at hp
      rw [cw_at hk] at hq
      cases hp
      cases hq
      exact h2.1 i k _ _ (cw_at hi) (cw_at hk) hpq
    · have hk : k < 45 := by
        rcases Nat.lt_or_ge k 45 with q | q
        · exact q
        · rw [List.getElem?_eq_none (by rw [cw_len]; omega)] at hq; cases hq
      rw [cw_at hk] at hq
      cases hq
      have h3 := h2.2 k _ (cw_at hk)
      exact h3
/-- a clause more: its cells -/
def zrF (f : Nat → Int32) (n i : Nat) : Nat → Int32 := fun q => if n * 11 ≤ q ∧ q < n * 11 + i then 0 else f q
def apF (f : Nat → Int32) (n : Nat) : Nat → Int32 := upd (upd (zrF f n 11) (n * 11 + 9) 999) (n * 11 + 10) (-1)
theorem zrF_0 (f : Nat → Int32) (n : Nat) : zrF f n 0 = f := by
  funext q
  unfold zrF
  rw [if_neg (by omega)]
theorem zrF_s (f : Nat → Int32) (n i : Nat) : upd (zrF f n i) (n * 11 + i) 0 = zrF f n (i + 1) := by
  funext q
  unfold upd zrF
  by_cases h : q = n * 11 + i
  · rw [if_pos h, if_pos (by omega)]
  · rw [if_neg h]
    by_cases h2 : n * 11 ≤ q ∧ q < n * 11 + i
    · rw [if_pos h2, if_pos (by omega)]
    · rw [if_neg h2, if_neg (by omega)]
def sm8 (f : Nat → Int32) (a b : Nat) : Bool := allU (fun i => decide (f (a * 11 + i) = f (b * 11 + i))) 8
def agn (f : Nat → Int32) (n a : Nat) : Bool := anyU (fun b => decide (b ≠ a) && sm8 f a b) n
def lex (f : Nat → Int32) (a : Nat) (st : Int32) (e : Nat) : Bool := decide (a < e) && decide (f (e * 11 + 10) = nI a) && isn st (nI e)
def minI (a b : Int32) : Int32 := if b < a then b else a
def nxe (f : Nat → Int32) (d : Int32) : Nat → Int32
  | 0 => 1000
  | c + 1 =>
    let a := if d < f (c * 11 + 8) then minI (nxe f d c) (f (c * 11 + 8)) else nxe f d c
    if d < f (c * 11 + 9) + 1 then minI a (f (c * 11 + 9) + 1) else a

set_option maxHeartbeats 4000000 in
set_option maxRecDepth 100000 in
theorem k_X1_size (l : Launch) {G : GT} {c : Nat → va_E} {k j n : Nat} {f : Nat → Int32} (hk : k < 45) (hj : j < 45) (h1 : c k = .inr (0, [.ref (gad G j), .int (nI n)])) (h2 : c j = .inl (gI G, 132, .inl f)) (hn : n ≤ 12) : Met l yX1_size (wv yX1_size cX1_size 1 (some .int)) ({ frames := 0, cells := 0, slots := 0, locals := 0 } : Room) (va_Pc [.ref (gad G k)] (fun U => Hw G c U U.heap)) (vp_Si (fun r => r = nI n)) 0 0 (fun _ => False) := by
  refine en (by decide +kernel) (by first | exact Nat.le_of_ble_eq_true rfl | decide) ?_
  intro p e s m below meth cd ls hx hb hr hml hown hts hlocks hnm hw hl
  have hl : lv_has ls 1 [(0, .ref (gad G k))] := hl
  refine lv_aload_n hx hb dX1_size_0 rfl (lv_at hl 0 rfl) ?_
  refine w_get (C := RX1) (T := TX1) (N := 2) 1 hx hb hts inX1 hown hw hk h1 rfl (by decide) (hts _ tw_37) rfl dX1_size_1 ?_
  exact re_S hx hb hr hlocks (rfl) dX1_size_4 (rfl)
set_option maxHeartbeats 4000000 in
set_option maxRecDepth 100000 in
theorem k_X1_has (l : Launch) {G : GT} {c : Nat → va_E} {k j n : Nat} {f : Nat → Int32} (hk : k < 45) (hj : j < 45) (h1 : c k = .inr (0, [.ref (gad G j), .int (nI n)])) (h2 : c j = .inl (gI G, 132, .inl f)) (hn : n ≤ 12) {x : Int32} : Met l yX1_has (wv yX1_has cX1_has 2 (some .boolean)) ({ frames := 0, cells := 0, slots := 0, locals := 0 } : Room) (va_Pc [.ref (gad G k), .int x] (fun U => Hw G c U U.heap)) (vp_Si (fun r => r = bi (hasN n x))) 0 0 (fun _ => False) := by
  refine en (by decide +kernel) (by first | exact Nat.le_of_ble_eq_true rfl | decide) ?_
  intro p e s m below meth cd ls hx hb hr hml hown hts hlocks hnm hw hl
  have hl : lv_has ls 2 [(0, .ref (gad G k)), (1, .int x)] := hl
  refine lv_iload_n hx hb dX1_has_0 rfl (lv_at hl 1 rfl) ?_
  refine lv_if_lt (tgt := 16) hx hb dX1_has_1 (by decide) (fun c1 => ?_) (fun c1 => ?_)
  · refine lv_iconst (v := 0) hx hb dX1_has_16 (by decide) ?_
    exact re_S hx hb hr hlocks (rfl) dX1_has_17 (by simp [bi, hasN, c1])
  · refine lv_iload_n hx hb dX1_has_4 rfl (lv_at hl 1 rfl) ?_
    refine lv_aload_n hx hb dX1_has_5 rfl (lv_at hl 0 rfl) ?_
    refine w_get (C := RX1) (T := TX1) (N := 2) 1 hx hb hts inX1 hown hw hk h1 rfl (by decide) (hts _ tw_37) rfl dX1_has_6 ?_
    refine lv_icmp_ge (tgt := 16) hx hb dX1_has_9 (by decide) (fun c9 => ?_) (fun c9 => ?_)
    · refine lv_iconst (v := 0) hx hb dX1_has_16 (by decide) ?_
      exact re_S hx hb hr hlocks (rfl) dX1_has_17 (by simp [bi, hasN, c1, c9])
    · refine lv_iconst (v := 1) hx hb dX1_has_12 (by decide) ?_
      refine lv_goto (tgt := 17) hx hb dX1_has_13 (by decide) ?_
      exact re_S hx hb hr hlocks (rfl) dX1_has_17 (by simp [bi, hasN, c1, c9])
set_option maxHeartbeats 4000000 in
set_option maxRecDepth 100000 in
theorem k_X1_at (l : Launch) {G : GT} {c : Nat → va_E} {k j n : Nat} {f : Nat → Int32} (hk : k < 45) (hj : j < 45) (h1 : c k = .inr (0, [.ref (gad G j), .int (nI n)])) (h2 : c j = .inl (gI G, 132, .inl f)) (hn : n ≤ 12) {x y : Int32} {q : Nat} (hq : x * 11 + y = nI q) (hq2 : q < 132) : Met l yX1_at (wv yX1_at cX1_at 3 (some .int)) ({ frames := 0, cells := 0, slots := 0, locals := 0 } : Room) (va_Pc [.ref (gad G k), .int x, .int y] (fun U => Hw G c U U.heap)) (vp_Si (fun r => r = f q)) 0 0 (fun _ => False) := by
  refine en (by decide +kernel) (by first | exact Nat.le_of_ble_eq_true rfl | decide) ?_
  intro p e s m below meth cd ls hx hb hr hml hown hts hlocks hnm hw hl
  have hl : lv_has ls 3 [(0, .ref (gad G k)), (1, .int x), (2, .int y)] := hl
  refine lv_aload_n hx hb dX1_at_0 rfl (lv_at hl 0 rfl) ?_
  refine w_get (C := RX1) (T := TX1) (N := 2) 0 hx hb hts inX1 hown hw hk h1 rfl (by decide) (hts _ tw_36) rfl dX1_at_1 ?_
  refine lv_iload_n hx hb dX1_at_4 rfl (lv_at hl 1 rfl) ?_
  refine lv_bipush (v := 11) hx hb dX1_at_5 (by decide) ?_
  refine lv_imul hx hb dX1_at_7 ?_
  refine lv_iload_n hx hb dX1_at_8 rfl (lv_at hl 2 rfl) ?_
  refine lv_iadd hx hb dX1_at_9 ?_
  refine w_ialdN (j := q) hx hb hw hj h2 (hq) (hq2) (by decide) dX1_at_10 ?_
  exact re_S hx hb hr hlocks (rfl) dX1_at_11 (rfl)
set_option maxHeartbeats 4000000 in
set_option maxRecDepth 100000 in
theorem k_X1_put (l : Launch) {G : GT} {c : Nat → va_E} {k j n : Nat} {f : Nat → Int32} (hk : k < 45) (hj : j < 45) (h1 : c k = .inr (0, [.ref (gad G j), .int (nI n)])) (h2 : c j = .inl (gI G, 132, .inl f)) (hn : n ≤ 12) {x y v : Int32} {q : Nat} (hq : x * 11 + y = nI q) (hq2 : q < 132) : Met l yX1_put (wv yX1_put cX1_put 4 none) ({ frames := 0, cells := 0, slots := 0, locals := 0 } : Room) (va_Pc [.ref (gad G k), .int x, .int y, .int v] (fun U => Hw G c U U.heap)) (va_Qv (fun c9 : Nat → va_E => c9 = va_up c j (.inl (gI G, 132, .inl (upd f q v)))) (fun c9 t => Hw G c9 t t.heap) (gA G)) 0 0 (gA G) := by
  refine en (by decide +kernel) (by first | exact Nat.le_of_ble_eq_true rfl | decide) ?_
  intro p e s m below meth cd ls hx hb hr hml hown hts hlocks hnm hw hl
  have hl : lv_has ls 4 [(0, .ref (gad G k)), (1, .int x), (2, .int y), (3, .int v)] := hl
  have hX : Sw G s s.heap := hw.2.2.2.2.2
  have hS : va_S (gA G) s.heap s.heap [] := va_S.rf
  obtain ⟨H, hH⟩ : ∃ wz9, wz9 = s.heap := ⟨_, rfl⟩
  obtain ⟨locs, hlocs⟩ : ∃ wz9 : List Loc, wz9 = [] := ⟨_, rfl⟩
  have hw : Hw G c s H := by rw [hH]; exact hw
  have hS : va_S (gA G) s.heap H locs := by rw [hH, hlocs]; exact hS
  suffices hgo : W p l e ({ frames := 0, cells := 0, slots := 0, locals := 0 } : Room) s m (([.ref (gad G k), .int x, .int y, .int v] : List Value).toArray) below meth cd H locs 0 0 (MQ below (va_Qv (fun c9 : Nat → va_E => c9 = va_up c j (.inl (gI G, 132, .inl (upd f q v)))) (fun c9 t => Hw G c9 t t.heap) (gA G)) ([.ref (gad G k), .int x, .int y, .int v] : List Value).toArray s 0 0 (gA G)) (F0 m 0 ls []) by rw [hH, hlocs] at hgo; exact hgo
  refine lv_aload_n hx hb dX1_put_0 rfl (lv_at hl 0 rfl) ?_
  refine w_get (C := RX1) (T := TX1) (N := 2) 0 hx hb hts inX1 hown hw hk h1 rfl (by decide) (hts _ tw_36) rfl dX1_put_1 ?_
  refine lv_iload_n hx hb dX1_put_4 rfl (lv_at hl 1 rfl) ?_
  refine lv_bipush (v := 11) hx hb dX1_put_5 (by decide) ?_
  refine lv_imul hx hb dX1_put_7 ?_
  refine lv_iload_n hx hb dX1_put_8 rfl (lv_at hl 2 rfl) ?_
  refine lv_iadd hx hb dX1_put_9 ?_
  refine lv_iload_n hx hb dX1_put_10 rfl (lv_at hl 3 rfl) ?_
  refine w_iastN (j := q) (x := v) hx hb hw hX hS hj h2 (hq) (hq2) (by decide) dX1_put_11 (fun H locs hw hS => ?_)
  obtain ⟨w1, ew1⟩ : ∃ wz9 : Nat → va_E, wz9 = va_up c j (.inl (gI G, 132, .inl (upd f (q) (v)))) := ⟨_, rfl⟩
  have hw : Hw G w1 s H := by rw [ew1]; exact hw
  have h1_1 : w1 k = .inr (0, [.ref (gad G j), .int (nI n)]) := by rw [ew1]; exact vu_e (ne_oa h1 h2) h1
  have h2_1 : w1 j = .inl (gI G, 132, .inl (upd f (q) (v))) := by rw [ew1]; exact vu_s
  exact re_V hx hb hr hlocks hw hS dX1_put_12 (ew1)
set_option maxHeartbeats 4000000 in
set_option maxRecDepth 100000 in
theorem k_X1_cutTo (l : Launch) {G : GT} {c : Nat → va_E} {k j n : Nat} {f : Nat → Int32} (hk : k < 45) (hj : j < 45) (h1 : c k = .inr (0, [.ref (gad G j), .int (nI n)])) (h2 : c j = .inl (gI G, 132, .inl f)) (hn : n ≤ 12) {x : Nat} : Met l yX1_cutTo (wv yX1_cutTo cX1_cutTo 2 none) ({ frames := 0, cells := 0, slots := 0, locals := 0 } : Room) (va_Pc [.ref (gad G k), .int (nI x)] (fun U => Hw G c U U.heap)) (va_Qv (fun c9 : Nat → va_E => c9 = va_up c k (.inr (0, [.ref (gad G j), .int (nI x)]))) (fun c9 t => Hw G c9 t t.heap) (gA G)) 0 0 (gA G) := by
  refine en (by decide +kernel) (by first | exact Nat.le_of_ble_eq_true rfl | decide) ?_
  intro p e s m below meth cd ls hx hb hr hml hown hts hlocks hnm hw hl
  have hl : lv_has ls 2 [(0, .ref (gad G k)), (1, .int (nI x))] := hl
  have hX : Sw G s s.heap := hw.2.2.2.2.2
  have hS : va_S (gA G) s.heap s.heap [] := va_S.rf
  obtain ⟨H, hH⟩ : ∃ wz9, wz9 = s.heap := ⟨_, rfl⟩
  obtain ⟨locs, hlocs⟩ : ∃ wz9 : List Loc, wz9 = [] := ⟨_, rfl⟩
  have hw : Hw G c s H := by rw [hH]; exact hw
  have hS : va_S (gA G) s.heap H locs := by rw [hH, hlocs]; exact hS
  suffices hgo : W p l e ({ frames := 0, cells := 0, slots := 0, locals := 0 } : Room) s m (([.ref (gad G k), .int (nI x)] : List Value).toArray) below meth cd H locs 0 0 (MQ below (va_Qv (fun c9 : Nat → va_E => c9 = va_up c k (.inr (0, [.ref (gad G j), .int (nI x)]))) (fun c9 t => Hw G c9 t t.heap) (gA G)) ([.ref (gad G k), .int (nI x)] : List Value).toArray s 0 0 (gA G)) (F0 m 0 ls []) by rw [hH, hlocs] at hgo; exact hgo
  refine lv_aload_n hx hb dX1_cutTo_0 rfl (lv_at hl 0 rfl) ?_
  refine lv_iload_n hx hb dX1_cutTo_1 rfl (lv_at hl 1 rfl) ?_
  refine w_put (C := RX1) (T := TX1) (N := 2) (v := .int (nI x)) 1 tyX1 hx hb hts inX1 tyX1_ok nmX1 hown hw hX hS hk h1 rfl (by decide) (hts _ tw_37) rfl rfl (rfl) (rfl) (Nat.le_of_ble_eq_true rfl) dX1_cutTo_2 (fun H locs hw hS => ?_)
  obtain ⟨w2, ew2⟩ : ∃ wz9 : Nat → va_E, wz9 = va_up c k (.inr (0, [.ref (gad G j), .int (nI x)])) := ⟨_, rfl⟩
  have hw : Hw G w2 s H := by rw [ew2]; exact hw
  have h1_2 : w2 k = .inr (0, [.ref (gad G j), .int (nI x)]) := by rw [ew2]; exact vu_s
  have h2_2 : w2 j = .inl (gI G, 132, .inl f) := by rw [ew2]; exact vu_e (Ne.symm (ne_oa h1 h2)) h2
  exact re_V hx hb hr hlocks hw hS dX1_cutTo_5 (ew2)
set_option maxHeartbeats 4000000 in
set_option maxRecDepth 100000 in
theorem k_X1_append (l : Launch) {G : GT} {c : Nat → va_E} {k j n : Nat} {f : Nat → Int32} (hk : k < 45) (hj : j < 45) (h1 : c k = .inr (0, [.ref (gad G j), .int (nI n)])) (h2 : c j = .inl (gI G, 132, .inl f)) (hn : n ≤ 12) : Met l yX1_append (wv yX1_append cX1_append 3 (some .int)) ({ frames := 1, cells := 0, slots := 0, locals := 23 } : Room) (va_Pc [.ref (gad G k)] (fun U => Hw G c U U.heap)) (va_Qi (fun r (c9 : Nat → va_E) => (n = 12 ∧ r = -4 ∧ c9 = c) ∨ (n < 12 ∧ r = nI n ∧ c9 = va_up (va_up c k (.inr (0, [.ref (gad G j), .int (nI (n + 1))]))) j (.inl (gI G, 132, .inl (apF f n))))) (fun c9 t => Hw G c9 t t.heap) (gA G)) 0 0 (gA G) := by
  refine en (by decide +kernel) (by first | exact Nat.le_of_ble_eq_true rfl | decide) ?_
  intro p e s m below meth cd ls hx hb hr hml hown hts hlocks hnm hw hl
  have hl : lv_has ls 3 [(0, .ref (gad G k))] := hl
  have hX : Sw G s s.heap := hw.2.2.2.2.2
  have hS : va_S (gA G) s.heap s.heap [] := va_S.rf
  obtain ⟨H, hH⟩ : ∃ wz9, wz9 = s.heap := ⟨_, rfl⟩
  obtain ⟨locs, hlocs⟩ : ∃ wz9 : List Loc, wz9 = [] := ⟨_, rfl⟩
  have hw : Hw G c s H := by rw [hH]; exact hw
  have hS : va_S (gA G) s.heap H locs := by rw [hH, hlocs]; exact hS
  suffices hgo : W p l e ({ frames := 1, cells := 0, slots := 0, locals := 23 } : Room) s m (([.ref (gad G k)] : List Value).toArray) below meth cd H locs 0 0 (MQ below (va_Qi (fun r (c9 : Nat → va_E) => (n = 12 ∧ r = -4 ∧ c9 = c) ∨ (n < 12 ∧ r = nI n ∧ c9 = va_up (va_up c k (.inr (0, [.ref (gad G j), .int (nI (n + 1))]))) j (.inl (gI G, 132, .inl (apF f n))))) (fun c9 t => Hw G c9 t t.heap) (gA G)) ([.ref (gad G k)] : List Value).toArray s 0 0 (gA G)) (F0 m 0 ls []) by rw [hH, hlocs] at hgo; exact hgo
  refine lv_aload_n hx hb dX1_append_0 rfl (lv_at hl 0 rfl) ?_
  refine w_get (C := RX1) (T := TX1) (N := 2) 1 hx hb hts inX1 hown hw hk h1 rfl (by decide) (hts _ tw_37) rfl dX1_append_1 ?_
  refine lv_bipush (v := 12) hx hb dX1_append_4 (by decide) ?_
  refine lv_icmp_lt (tgt := 12) hx hb dX1_append_6 (by decide) (fun c6 => ?_) (fun c6 => ?_)
  · have hlt : n < 12 := by have h12 : (12 : Int32) = nI 12 := rfl; rw [h12, nI_ltI (by omega) (by omega)] at c6; exact c6
    refine lv_aload_n hx hb dX1_append_12 rfl (lv_at hl 0 rfl) ?_
    refine w_get (C := RX1) (T := TX1) (N := 2) 1 hx hb hts inX1 hown hw hk h1 rfl (by decide) (hts _ tw_37) rfl dX1_append_13 ?_
    refine lv_istore_n (lv' := [(1, _), (0, _)]) hx hb dX1_append_16 rfl hl (by decide) rfl (fun ls hl => ?_)
    refine lv_aload_n hx hb dX1_append_17 rfl (lv_at hl 1 rfl) ?_
    refine lv_dup hx hb dX1_append_18 rfl ?_
    refine w_get (C := RX1) (T := TX1) (N := 2) 1 hx hb hts inX1 hown hw hk h1 rfl (by decide) (hts _ tw_37) rfl dX1_append_19 ?_
    refine lv_iconst (v := 1) hx hb dX1_append_22 (by decide) ?_
    refine lv_iadd hx hb dX1_append_23 ?_
    refine tp (y := nI (n + 1)) (nI_1 n) ?_
    refine w_put (C := RX1) (T := TX1) (N := 2) (v := .int (nI (n + 1))) 1 tyX1 hx hb hts inX1 tyX1_ok nmX1 hown hw hX hS hk h1 rfl (by decide) (hts _ tw_37) rfl rfl (rfl) (rfl) (Nat.le_of_ble_eq_true rfl) dX1_append_24 (fun H locs hw hS => ?_)
    obtain ⟨w2, ew2⟩ : ∃ wz9 : Nat → va_E, wz9 = va_up c k (.inr (0, [.ref (gad G j), .int (nI (n + 1))])) := ⟨_, rfl⟩
    have hw : Hw G w2 s H := by rw [ew2]; exact hw
    have h1_2 : w2 k = .inr (0, [.ref (gad G j), .int (nI (n + 1))]) := by rw [ew2]; exact vu_s
    have h2_2 : w2 j = .inl (gI G, 132, .inl f) := by rw [ew2]; exact vu_e (Ne.symm (ne_oa h1 h2)) h2
    refine lv_iconst (v := 0) hx hb dX1_append_27 (by decide) ?_
    refine lv_istore_n (lv' := [(2, _), (1, _), (0, _)]) hx hb dX1_append_28 rfl hl (by decide) rfl (fun ls hl => ?_)
    have L29 : ∀ (N : Nat) (i : Nat) (fz : Nat → Int32), (i + N = 11) → (fz = zrF f n i) → ∀ (c0 : Nat → va_E) (H : Heap) (locs : List Loc), (c0 = va_up (va_up c k (.inr (0, [.ref (gad G j), .int (nI (n + 1))]))) j (.inl (gI G, 132, .inl fz))) → Hw G c0 s H → va_S (gA G) s.heap H locs → ∀ ls : Array Slot, lv_has ls 3 [(2, .int (nI i)), (1, .int (nI n)), (0, .ref (gad G k))] → W p l e ({ frames := 1, cells := 0, slots := 0, locals := 23 } : Room) s m (([.ref (gad G k)] : List Value).toArray) below meth cd H locs 0 0 (MQ below (va_Qi (fun r (c9 : Nat → va_E) => (n = 12 ∧ r = -4 ∧ c9 = c) ∨ (n < 12 ∧ r = nI n ∧ c9 = va_up (va_up c k (.inr (0, [.ref (gad G j), .int (nI (n + 1))]))) j (.inl (gI G, 132, .inl (apF f n))))) (fun c9 t => Hw G c9 t t.heap) (gA G)) ([.ref (gad G k)] : List Value).toArray s 0 0 (gA G)) (F0 m 29 ls []) := by
      intro N
      induction N with
      | zero =>
        intro i  fz  hN hz c0 H locs e0 hw hS ls hl
        obtain rfl : i = 11 := by omega
        have hne := ne_oa h1 h2
        have h1 : c0 k = .inr (0, [.ref (gad G j), .int (nI (n + 1))]) := by rw [e0]; exact vu_e hne vu_s
        have h2 : c0 j = .inl (gI G, 132, .inl fz) := by rw [e0]; exact vu_s
        refine lv_iload_n hx hb dX1_append_29 rfl (lv_at hl 0 rfl) ?_
        refine lv_bipush (v := 11) hx hb dX1_append_30 (by decide) ?_
        refine lv_icmp_ge (tgt := 48) hx hb dX1_append_32 (by decide) (fun c32 => ?_) (fun q => absurd (by decide) q)
        refine lv_aload_n hx hb dX1_append_48 rfl (lv_at hl 2 rfl) ?_
        refine lv_iload_n hx hb dX1_append_49 rfl (lv_at hl 1 rfl) ?_
        refine lv_bipush (v := 9) hx hb dX1_append_50 (by decide) ?_
        refine lv_sipush (v := 999) hx hb dX1_append_52 (by decide) ?_
        refine cQv (rV (As := [_, _, _]) ⟨hx, hb, hml, hown, hts⟩ hw (k_X1_put l hk hj h1 h2 (by omega : n + 1 ≤ 12) (ix n 9) (by omega)) (cv_X1_put hts tw_197 rfl rfl ⟨Nat.le_of_ble_eq_true rfl, Nat.le_of_ble_eq_true rfl⟩) hk h1 rfl rfl hl.1 rfl (by first | exact Nat.le_of_ble_eq_true rfl | decide) dX1_append_55 ⟨Nat.zero_le _, Nat.zero_le _⟩) hw hS (fun w3 H locs hp55 hw hS => ?_)
        have h2_3 : w3 j = .inl (gI G, 132, .inl (upd fz (n * 11 + 9) (999))) := by rw [hp55]; exact vu_s
        have h1_3 : w3 k = .inr (0, [.ref (gad G j), .int (nI (n + 1))]) := by rw [hp55]; exact vu_e (ne_oa h1 h2) h1
        refine lv_aload_n hx hb dX1_append_58 rfl (lv_at hl 2 rfl) ?_
        refine lv_iload_n hx hb dX1_append_59 rfl (lv_at hl 1 rfl) ?_
        refine lv_bipush (v := 10) hx hb dX1_append_60 (by decide) ?_
        refine lv_iconst (v := (-1)) hx hb dX1_append_62 (by decide) ?_
        refine cQv (rV (As := [_, _, _]) ⟨hx, hb, hml, hown, hts⟩ hw (k_X1_put l hk hj h1_3 h2_3 (by omega : n + 1 ≤ 12) (ix n 10) (by omega)) (cv_X1_put hts tw_197 rfl rfl ⟨Nat.le_of_ble_eq_true rfl, Nat.le_of_ble_eq_true rfl⟩) hk h1_3 rfl rfl hl.1 rfl (by first | exact Nat.le_of_ble_eq_true rfl | decide) dX1_append_63 ⟨Nat.zero_le _, Nat.zero_le _⟩) hw hS (fun w4 H locs hp63 hw hS => ?_)
        have h2_4 : w4 j = .inl (gI G, 132, .inl (upd (upd fz (n * 11 + 9) (999)) (n * 11 + 10) (-1))) := by rw [hp63]; exact vu_s
        have h1_4 : w4 k = .inr (0, [.ref (gad G j), .int (nI (n + 1))]) := by rw [hp63]; exact vu_e (ne_oa h1 h2) h1_3
        refine lv_iload_n hx hb dX1_append_66 rfl (lv_at hl 1 rfl) ?_
        exact re_Q hx hb hr hlocks (rfl) hw hS dX1_append_67 (Or.inr ⟨hlt, rfl, by rw [hp63, hp55, e0]; unfold apF; rw [hz, up_up, up_up]⟩)
      | succ N ih =>
        intro i  fz  hN hz c0 H locs e0 hw hS ls hl
        have hne := ne_oa h1 h2
        have h1 : c0 k = .inr (0, [.ref (gad G j), .int (nI (n + 1))]) := by rw [e0]; exact vu_e hne vu_s
        have h2 : c0 j = .inl (gI G, 132, .inl fz) := by rw [e0]; exact vu_s
        refine lv_iload_n hx hb dX1_append_29 rfl (lv_at hl 0 rfl) ?_
        refine lv_bipush (v := 11) hx hb dX1_append_30 (by decide) ?_
        refine lv_icmp_ge (tgt := 48) hx hb dX1_append_32 (by decide) (fun q => absurd q (nI_ge (b := 11) (by omega) (by omega))) (fun c32 => ?_)
        refine lv_aload_n hx hb dX1_append_35 rfl (lv_at hl 2 rfl) ?_
        refine lv_iload_n hx hb dX1_append_36 rfl (lv_at hl 1 rfl) ?_
        refine lv_iload_n hx hb dX1_append_37 rfl (lv_at hl 0 rfl) ?_
        refine lv_iconst (v := 0) hx hb dX1_append_38 (by decide) ?_
        refine cQv (rV (As := [_, _, _]) ⟨hx, hb, hml, hown, hts⟩ hw (k_X1_put l hk hj h1 h2 (by omega : n + 1 ≤ 12) (ix n i) (by omega)) (cv_X1_put hts tw_197 rfl rfl ⟨Nat.le_of_ble_eq_true rfl, Nat.le_of_ble_eq_true rfl⟩) hk h1 rfl rfl hl.1 rfl (by first | exact Nat.le_of_ble_eq_true rfl | decide) dX1_append_39 ⟨Nat.zero_le _, Nat.zero_le _⟩) hw hS (fun w5 H locs hp39 hw hS => ?_)
        have h2_5 : w5 j = .inl (gI G, 132, .inl (upd fz (n * 11 + i) (0))) := by rw [hp39]; exact vu_s
        have h1_5 : w5 k = .inr (0, [.ref (gad G j), .int (nI (n + 1))]) := by rw [hp39]; exact vu_e (ne_oa h1 h2) h1
        refine lv_iinc (v := nI (i + 1)) (lv' := [(2, _), (1, _), (0, _)]) hx hb dX1_append_42 hl (k := 0) rfl (inc1 i) (by decide) rfl (fun ls hl => ?_)
        refine lv_goto (tgt := 29) hx hb dX1_append_45 (by decide) ?_
        exact ih (i + 1) (zrF f n (i + 1)) (by omega) rfl _ H locs (by rw [hp39, e0, up_up, hz, zrF_s]) hw hS ls (lv_sub hl [0, 1, 2] rfl)
    exact L29 11 0 f (by omega) (zrF_0 f n).symm _ H locs (by rw [ew2]; exact (up_id (by rw [vu_n (Ne.symm (ne_oa h1 h2))]; exact h2)).symm) hw hS ls (lv_sub hl [0, 1, 2] rfl)
  · refine lv_bipush (v := (-4)) hx hb dX1_append_9 (by decide) ?_
    exact re_Q hx hb hr hlocks (rfl) hw hS dX1_append_11 (Or.inl ⟨by have := Int32.not_lt.mp c6; have h12 : (12 : Int32) = nI 12 := rfl; rw [h12, nI_leI (by omega) (by omega)] at this; omega, rfl, rfl⟩)
set_option maxHeartbeats 4000000 in
set_option maxRecDepth 100000 in
theorem k_X1_saysSame (l : Launch) {G : GT} {c : Nat → va_E} {k j n : Nat} {f : Nat → Int32} (hk : k < 45) (hj : j < 45) (h1 : c k = .inr (0, [.ref (gad G j), .int (nI n)])) (h2 : c j = .inl (gI G, 132, .inl f)) (hn : n ≤ 12) {a b : Nat} (ha : a < n) (hb2 : b < n) : Met l yX1_saysSame (wv yX1_saysSame cX1_saysSame 4 (some .boolean)) ({ frames := 1, cells := 0, slots := 0, locals := 22 } : Room) (va_Pc [.ref (gad G k), .int (nI a), .int (nI b)] (fun U => Hw G c U U.heap)) (vp_Si (fun r => r = bi (sm8 f a b))) 0 0 (fun _ => False) := by
  refine en (by decide +kernel) (by first | exact Nat.le_of_ble_eq_true rfl | decide) ?_
  intro p e s m below meth cd ls hx hb hr hml hown hts hlocks hnm hw hl
  have hl : lv_has ls 4 [(0, .ref (gad G k)), (1, .int (nI a)), (2, .int (nI b))] := hl
  refine lv_iconst (v := 0) hx hb dX1_saysSame_0 (by decide) ?_
  refine lv_istore_n (lv' := [(3, _), (0, _), (1, _), (2, _)]) hx hb dX1_saysSame_1 rfl hl (by decide) rfl (fun ls hl => ?_)
  have L2 : ∀ (N : Nat) (i : Nat), (i + N = 8) → (allU (fun i => decide (f (a * 11 + i) = f (b * 11 + i))) i = true) → ∀ ls : Array Slot, lv_has ls 4 [(3, .int (nI i)), (2, .int (nI b)), (1, .int (nI a)), (0, .ref (gad G k))] → W p l e ({ frames := 1, cells := 0, slots := 0, locals := 22 } : Room) s m (([.ref (gad G k), .int (nI a), .int (nI b)] : List Value).toArray) below meth cd s.heap [] 0 0 (MQ below (vp_Si (fun r => r = bi (sm8 f a b))) ([.ref (gad G k), .int (nI a), .int (nI b)] : List Value).toArray s 0 0 (fun _ => False)) (F0 m 2 ls []) := by
    intro N
    induction N with
    | zero =>
      intro i  hN hA ls hl
      obtain rfl : i = 8 := by omega
      refine lv_iload_n hx hb dX1_saysSame_2 rfl (lv_at hl 0 rfl) ?_
      refine lv_bipush (v := 8) hx hb dX1_saysSame_3 (by decide) ?_
      refine lv_icmp_ge (tgt := 31) hx hb dX1_saysSame_5 (by decide) (fun c5 => ?_) (fun q => absurd (by decide) q)
      refine lv_iconst (v := 1) hx hb dX1_saysSame_31 (by decide) ?_
      exact re_S hx hb hr hlocks (rfl) dX1_saysSame_32 (by rw [sm8, hA]; rfl)
    | succ N ih =>
      intro i  hN hA ls hl
      refine lv_iload_n hx hb dX1_saysSame_2 rfl (lv_at hl 0 rfl) ?_
      refine lv_bipush (v := 8) hx hb dX1_saysSame_3 (by decide) ?_
      refine lv_icmp_ge (tgt := 31) hx hb dX1_saysSame_5 (by decide) (fun q => absurd q (nI_ge (b := 8) (by omega) (by omega))) (fun c5 => ?_)
      refine lv_aload_n hx hb dX1_saysSame_8 rfl (lv_at hl 3 rfl) ?_
      refine lv_iload_n hx hb dX1_saysSame_9 rfl (lv_at hl 2 rfl) ?_
      refine lv_iload_n hx hb dX1_saysSame_10 rfl (lv_at hl 0 rfl) ?_
      refine cSe (rV (As := [_, _]) ⟨hx, hb, hml, hown, hts⟩ hw (k_X1_at l hk hj h1 h2 hn (ix a i) (by omega)) (cv_X1_at hts tw_299 rfl rfl ⟨Nat.le_of_ble_eq_true rfl, Nat.le_of_ble_eq_true rfl⟩) hk h1 rfl rfl hl.1 rfl (by first | exact Nat.le_of_ble_eq_true rfl | decide) dX1_saysSame_11 ⟨Nat.zero_le _, Nat.zero_le _⟩) ?_
      refine lv_aload_n hx hb dX1_saysSame_14 rfl (lv_at hl 3 rfl) ?_
      refine lv_iload_n hx hb dX1_saysSame_15 rfl (lv_at hl 1 rfl) ?_
      refine lv_iload_n hx hb dX1_saysSame_16 rfl (lv_at hl 0 rfl) ?_
      refine cSe (rV (As := [_, _]) ⟨hx, hb, hml, hown, hts⟩ hw (k_X1_at l hk hj h1 h2 hn (ix b i) (by omega)) (cv_X1_at hts tw_299 rfl rfl ⟨Nat.le_of_ble_eq_true rfl, Nat.le_of_ble_eq_true rfl⟩) hk h1 rfl rfl hl.1 rfl (by first | exact Nat.le_of_ble_eq_true rfl | decide) dX1_saysSame_17 ⟨Nat.zero_le _, Nat.zero_le _⟩) ?_
      refine lv_icmp_eq (tgt := 25) hx hb dX1_saysSame_20 (by decide) (fun c20 => ?_) (fun c20 => ?_)
      · refine lv_iinc (v := nI (i + 1)) (lv' := [(3, _), (2, _), (1, _), (0, _)]) hx hb dX1_saysSame_25 hl (k := 0) rfl (inc1 i) (by decide) rfl (fun ls hl => ?_)
        refine lv_goto (tgt := 2) hx hb dX1_saysSame_28 (by decide) ?_
        exact ih (i + 1) (by omega) (by rw [allU, hA]; simp [c20]) ls (lv_sub hl [0, 1, 2, 3] rfl)
      · refine lv_iconst (v := 0) hx hb dX1_saysSame_23 (by decide) ?_
        exact re_S hx hb hr hlocks (rfl) dX1_saysSame_24 (by rw [sm8, allU_f (i := i) (by simp [c20]) 8 (by omega)]; rfl)
  exact L2 8 0 (by omega) rfl ls (lv_sub hl [0, 3, 2, 1] rfl)
set_option maxHeartbeats 4000000 in
set_option maxRecDepth 100000 in
theorem k_X1_isSaidAgain (l : Launch) {G : GT} {c : Nat → va_E} {k j n : Nat} {f : Nat → Int32} (hk : k < 45) (hj : j < 45) (h1 : c k = .inr (0, [.ref (gad G j), .int (nI n)])) (h2 : c j = .inl (gI G, 132, .inl f)) (hn : n ≤ 12) {a : Nat} (ha : a < n) : Met l yX1_isSaidAgain (wv yX1_isSaidAgain cX1_isSaidAgain 3 (some .boolean)) ({ frames := 2, cells := 0, slots := 0, locals := 45 } : Room) (va_Pc [.ref (gad G k), .int (nI a)] (fun U => Hw G c U U.heap)) (vp_Si (fun r => r = bi (agn f n a))) 0 0 (fun _ => False) := by
  refine en (by decide +kernel) (by first | exact Nat.le_of_ble_eq_true rfl | decide) ?_
  intro p e s m below meth cd ls hx hb hr hml hown hts hlocks hnm hw hl
  have hl : lv_has ls 3 [(0, .ref (gad G k)), (1, .int (nI a))] := hl
  refine lv_iconst (v := 0) hx hb dX1_isSaidAgain_0 (by decide) ?_
  refine lv_istore_n (lv' := [(2, _), (0, _), (1, _)]) hx hb dX1_isSaidAgain_1 rfl hl (by decide) rfl (fun ls hl => ?_)
  have L2 : ∀ (N : Nat) (i : Nat), (i + N = n) → (anyU (fun b => decide (b ≠ a) && sm8 f a b) i = false) → ∀ ls : Array Slot, lv_has ls 3 [(2, .int (nI i)), (1, .int (nI a)), (0, .ref (gad G k))] → W p l e ({ frames := 2, cells := 0, slots := 0, locals := 45 } : Room) s m (([.ref (gad G k), .int (nI a)] : List Value).toArray) below meth cd s.heap [] 0 0 (MQ below (vp_Si (fun r => r = bi (agn f n a))) ([.ref (gad G k), .int (nI a)] : List Value).toArray s 0 0 (fun _ => False)) (F0 m 2 ls []) := by
    intro N
    induction N with
    | zero =>
      intro i  hN hA ls hl
      obtain rfl : i = n := by omega
      refine lv_iload_n hx hb dX1_isSaidAgain_2 rfl (lv_at hl 0 rfl) ?_
      refine lv_aload_n hx hb dX1_isSaidAgain_3 rfl (lv_at hl 2 rfl) ?_
      refine w_get (C := RX1) (T := TX1) (N := 2) 1 hx hb hts inX1 hown hw hk h1 rfl (by decide) (hts _ tw_37) rfl dX1_isSaidAgain_4 ?_
      refine lv_icmp_ge (tgt := 32) hx hb dX1_isSaidAgain_7 (by decide) (fun c7 => ?_) (fun q => absurd (Int32.le_refl _) q)
      refine lv_iconst (v := 0) hx hb dX1_isSaidAgain_32 (by decide) ?_
      exact re_S hx hb hr hlocks (rfl) dX1_isSaidAgain_33 (by rw [agn, hA]; rfl)
    | succ N ih =>
      intro i  hN hA ls hl
      refine lv_iload_n hx hb dX1_isSaidAgain_2 rfl (lv_at hl 0 rfl) ?_
      refine lv_aload_n hx hb dX1_isSaidAgain_3 rfl (lv_at hl 2 rfl) ?_
      refine w_get (C := RX1) (T := TX1) (N := 2) 1 hx hb hts inX1 hown hw hk h1 rfl (by decide) (hts _ tw_37) rfl dX1_isSaidAgain_4 ?_
      refine lv_icmp_ge (tgt := 32) hx hb dX1_isSaidAgain_7 (by decide) (fun q => absurd q (nI_ge (by omega) (by omega))) (fun c7 => ?_)
      refine lv_iload_n hx hb dX1_isSaidAgain_10 rfl (lv_at hl 0 rfl) ?_
      refine lv_iload_n hx hb dX1_isSaidAgain_11 rfl (lv_at hl 1 rfl) ?_
      refine lv_icmp_eq (tgt := 26) hx hb dX1_isSaidAgain_12 (by decide) (fun c12 => ?_) (fun c12 => ?_)
      · refine lv_iinc (v := nI (i + 1)) (lv' := [(2, _), (1, _), (0, _)]) hx hb dX1_isSaidAgain_26 hl (k := 0) rfl (inc1 i) (by decide) rfl (fun ls hl => ?_)
        refine lv_goto (tgt := 2) hx hb dX1_isSaidAgain_29 (by decide) ?_
        exact ih (i + 1) (by omega) (by rw [anyU, hA]; first | (simp [c21]; done) | (have : i = a := (nI_eq (by omega) (by omega)).mp c12; simp [this])) ls (lv_sub hl [0, 1, 2] rfl)
      · have hne : i ≠ a := fun q => c12 (by rw [q])
        refine lv_aload_n hx hb dX1_isSaidAgain_15 rfl (lv_at hl 2 rfl) ?_
        refine lv_iload_n hx hb dX1_isSaidAgain_16 rfl (lv_at hl 1 rfl) ?_
        refine lv_iload_n hx hb dX1_isSaidAgain_17 rfl (lv_at hl 0 rfl) ?_
        refine cSe (rV (As := [_, _]) ⟨hx, hb, hml, hown, hts⟩ hw (k_X1_saysSame l hk hj h1 h2 hn ha (by omega)) (cv_X1_saysSame hts tw_561 rfl rfl ⟨Nat.le_of_ble_eq_true rfl, Nat.le_of_ble_eq_true rfl⟩) hk h1 rfl rfl hl.1 rfl (by first | exact Nat.le_of_ble_eq_true rfl | decide) dX1_isSaidAgain_18 ⟨Nat.zero_le _, Nat.zero_le _⟩) ?_
        refine zb_eq (tgt := 26) hx hb dX1_isSaidAgain_21 (by decide) (fun c21 => ?_) (fun c21 => ?_)
        · refine lv_iinc (v := nI (i + 1)) (lv' := [(2, _), (1, _), (0, _)]) hx hb dX1_isSaidAgain_26 hl (k := 0) rfl (inc1 i) (by decide) rfl (fun ls hl => ?_)
          refine lv_goto (tgt := 2) hx hb dX1_isSaidAgain_29 (by decide) ?_
          exact ih (i + 1) (by omega) (by rw [anyU, hA]; first | (simp [c21]; done) | (have : i = a := (nI_eq (by omega) (by omega)).mp c12; simp [this])) ls (lv_sub hl [0, 1, 2] rfl)
        · refine lv_iconst (v := 1) hx hb dX1_isSaidAgain_24 (by decide) ?_
          exact re_S hx hb hr hlocks (rfl) dX1_isSaidAgain_25 (by rw [agn, anyU_t (i := i) (by simp [hne, c21]) n (by omega)]; rfl)
  exact L2 n 0 (by omega) rfl ls (lv_sub hl [0, 2, 1] rfl)
set_option maxHeartbeats 4000000 in
set_option maxRecDepth 100000 in
theorem k_X1_spanHas (l : Launch) {G : GT} {c : Nat → va_E} {k j n : Nat} {f : Nat → Int32} (hk : k < 45) (hj : j < 45) (h1 : c k = .inr (0, [.ref (gad G j), .int (nI n)])) (h2 : c j = .inl (gI G, 132, .inl f)) (hn : n ≤ 12) {a : Nat} {d : Int32} (ha : a < n) : Met l yX1_spanHas (wv yX1_spanHas cX1_spanHas 3 (some .boolean)) ({ frames := 1, cells := 0, slots := 0, locals := 22 } : Room) (va_Pc [.ref (gad G k), .int (nI a), .int d] (fun U => Hw G c U U.heap)) (vp_Si (fun r => r = bi (spn f d a))) 0 0 (fun _ => False) := by
  refine en (by decide +kernel) (by first | exact Nat.le_of_ble_eq_true rfl | decide) ?_
  intro p e s m below meth cd ls hx hb hr hml hown hts hlocks hnm hw hl
  have hl : lv_has ls 3 [(0, .ref (gad G k)), (1, .int (nI a)), (2, .int d)] := hl
  refine lv_iload_n hx hb dX1_spanHas_0 rfl (lv_at hl 2 rfl) ?_
  refine lv_aload_n hx hb dX1_spanHas_1 rfl (lv_at hl 0 rfl) ?_
  refine lv_iload_n hx hb dX1_spanHas_2 rfl (lv_at hl 1 rfl) ?_
  refine lv_bipush (v := 8) hx hb dX1_spanHas_3 (by decide) ?_
  refine cSe (rV (As := [_, _]) ⟨hx, hb, hml, hown, hts⟩ hw (k_X1_at l hk hj h1 h2 hn (ix a 8) (by omega)) (cv_X1_at hts tw_299 rfl rfl ⟨Nat.le_of_ble_eq_true rfl, Nat.le_of_ble_eq_true rfl⟩) hk h1 rfl rfl hl.1 rfl (by first | exact Nat.le_of_ble_eq_true rfl | decide) dX1_spanHas_5 ⟨Nat.zero_le _, Nat.zero_le _⟩) ?_
  refine lv_icmp_lt (tgt := 26) hx hb dX1_spanHas_8 (by decide) (fun c8 => ?_) (fun c8 => ?_)
  · refine lv_iconst (v := 0) hx hb dX1_spanHas_26 (by decide) ?_
    exact re_S hx hb hr hlocks (rfl) dX1_spanHas_27 (by simp [bi, spn, wn, c8])
  · refine lv_iload_n hx hb dX1_spanHas_11 rfl (lv_at hl 2 rfl) ?_
    refine lv_aload_n hx hb dX1_spanHas_12 rfl (lv_at hl 0 rfl) ?_
    refine lv_iload_n hx hb dX1_spanHas_13 rfl (lv_at hl 1 rfl) ?_
    refine lv_bipush (v := 9) hx hb dX1_spanHas_14 (by decide) ?_
    refine cSe (rV (As := [_, _]) ⟨hx, hb, hml, hown, hts⟩ hw (k_X1_at l hk hj h1 h2 hn (ix a 9) (by omega)) (cv_X1_at hts tw_299 rfl rfl ⟨Nat.le_of_ble_eq_true rfl, Nat.le_of_ble_eq_true rfl⟩) hk h1 rfl rfl hl.1 rfl (by first | exact Nat.le_of_ble_eq_true rfl | decide) dX1_spanHas_16 ⟨Nat.zero_le _, Nat.zero_le _⟩) ?_
    refine lv_icmp_gt (tgt := 26) hx hb dX1_spanHas_19 (by decide) (fun c19 => ?_) (fun c19 => ?_)
    · refine lv_iconst (v := 0) hx hb dX1_spanHas_26 (by decide) ?_
      exact re_S hx hb hr hlocks (rfl) dX1_spanHas_27 (by simp [bi, spn, wn, c8, c19])
    · refine lv_iconst (v := 1) hx hb dX1_spanHas_22 (by decide) ?_
      refine lv_goto (tgt := 27) hx hb dX1_spanHas_23 (by decide) ?_
      exact re_S hx hb hr hlocks (rfl) dX1_spanHas_27 (by simp [bi, spn, wn, c8, c19])
set_option maxHeartbeats 4000000 in
set_option maxRecDepth 100000 in
theorem k_X1_testIsSo (l : Launch) {G : GT} {c : Nat → va_E} {k j n : Nat} {f : Nat → Int32} (hk : k < 45) (hj : j < 45) (h1 : c k = .inr (0, [.ref (gad G j), .int (nI n)])) (h2 : c j = .inl (gI G, 132, .inl f)) (hn : n ≤ 12) {a p0 : Nat} (ha : a < n) (hp0 : p0 < 25600000) : Met l yX1_testIsSo (wv yX1_testIsSo cX1_testIsSo 6 (some .boolean)) ({ frames := 1, cells := 0, slots := 0, locals := 22 } : Room) (va_Pc [.ref (gad G k), .int (nI a), .int (nI p0)] (fun U => Hw G c U U.heap)) (vp_Si (fun r => r = bi (tso f p0 a))) 0 0 (fun _ => False) := by
  refine en (by decide +kernel) (by first | exact Nat.le_of_ble_eq_true rfl | decide) ?_
  intro p e s m below meth cd ls hx hb hr hml hown hts hlocks hnm hw hl
  have hl : lv_has ls 6 [(0, .ref (gad G k)), (1, .int (nI a)), (2, .int (nI p0))] := hl
  refine lv_aload_n hx hb dX1_testIsSo_0 rfl (lv_at hl 0 rfl) ?_
  refine lv_iload_n hx hb dX1_testIsSo_1 rfl (lv_at hl 1 rfl) ?_
  refine lv_iconst (v := 2) hx hb dX1_testIsSo_2 (by decide) ?_
  refine cSe (rV (As := [_, _]) ⟨hx, hb, hml, hown, hts⟩ hw (k_X1_at l hk hj h1 h2 hn (ix a 2) (by omega)) (cv_X1_at hts tw_299 rfl rfl ⟨Nat.le_of_ble_eq_true rfl, Nat.le_of_ble_eq_true rfl⟩) hk h1 rfl rfl hl.1 rfl (by first | exact Nat.le_of_ble_eq_true rfl | decide) dX1_testIsSo_3 ⟨Nat.zero_le _, Nat.zero_le _⟩) ?_
  refine lv_istore_n (lv' := [(3, _), (0, _), (1, _), (2, _)]) hx hb dX1_testIsSo_6 rfl hl (by decide) rfl (fun ls hl => ?_)
  refine lv_aload_n hx hb dX1_testIsSo_7 rfl (lv_at hl 1 rfl) ?_
  refine lv_iload_n hx hb dX1_testIsSo_8 rfl (lv_at hl 2 rfl) ?_
  refine lv_iconst (v := 3) hx hb dX1_testIsSo_9 (by decide) ?_
  refine cSe (rV (As := [_, _]) ⟨hx, hb, hml, hown, hts⟩ hw (k_X1_at l hk hj h1 h2 hn (ix a 3) (by omega)) (cv_X1_at hts tw_299 rfl rfl ⟨Nat.le_of_ble_eq_true rfl, Nat.le_of_ble_eq_true rfl⟩) hk h1 rfl rfl hl.1 rfl (by first | exact Nat.le_of_ble_eq_true rfl | decide) dX1_testIsSo_10 ⟨Nat.zero_le _, Nat.zero_le _⟩) ?_
  refine lv_istore (lv' := [(4, _), (3, _), (0, _), (1, _), (2, _)]) hx hb dX1_testIsSo_13 hl (by decide) rfl (fun ls hl => ?_)
  refine lv_iload_n hx hb dX1_testIsSo_15 rfl (lv_at hl 4 rfl) ?_
  refine lv_aload_n hx hb dX1_testIsSo_16 rfl (lv_at hl 2 rfl) ?_
  refine lv_iload_n hx hb dX1_testIsSo_17 rfl (lv_at hl 3 rfl) ?_
  refine lv_iconst (v := 1) hx hb dX1_testIsSo_18 (by decide) ?_
  refine cSe (rV (As := [_, _]) ⟨hx, hb, hml, hown, hts⟩ hw (k_X1_at l hk hj h1 h2 hn (ix a 1) (by omega)) (cv_X1_at hts tw_299 rfl rfl ⟨Nat.le_of_ble_eq_true rfl, Nat.le_of_ble_eq_true rfl⟩) hk h1 rfl rfl hl.1 rfl (by first | exact Nat.le_of_ble_eq_true rfl | decide) dX1_testIsSo_19 ⟨Nat.zero_le _, Nat.zero_le _⟩) ?_
  refine cSe (rST (As := [_, _]) ⟨hx, hb, hml, hown, hts⟩ (k_X9_told l hp0) (cv_X9_told hts tw_304 rfl rfl ⟨Nat.le_of_ble_eq_true rfl, Nat.le_of_ble_eq_true rfl⟩) rfl hl.1 rfl (by first | exact Nat.le_of_ble_eq_true rfl | decide) dX1_testIsSo_22 ⟨Nat.zero_le _, Nat.zero_le _⟩) ?_
  refine lv_istore (lv' := [(5, _), (4, _), (3, _), (0, _), (1, _), (2, _)]) hx hb dX1_testIsSo_25 hl (by decide) rfl (fun ls hl => ?_)
  refine lv_aload_n hx hb dX1_testIsSo_27 rfl (lv_at hl 3 rfl) ?_
  refine lv_iload_n hx hb dX1_testIsSo_28 rfl (lv_at hl 4 rfl) ?_
  refine lv_iconst (v := 0) hx hb dX1_testIsSo_29 (by decide) ?_
  refine cSe (rV (As := [_, _]) ⟨hx, hb, hml, hown, hts⟩ hw (k_X1_at l hk hj h1 h2 hn (ix a 0) (by omega)) (cv_X1_at hts tw_299 rfl rfl ⟨Nat.le_of_ble_eq_true rfl, Nat.le_of_ble_eq_true rfl⟩) hk h1 rfl rfl hl.1 rfl (by first | exact Nat.le_of_ble_eq_true rfl | decide) dX1_testIsSo_30 ⟨Nat.zero_le _, Nat.zero_le _⟩) ?_
  by_cases hs33 : (f (a * 11 + 0)).toInt < 0 ∨ 5 < (f (a * 11 + 0)).toInt
  · refine lv_tableOut (tgt := 145) hx hb dX1_testIsSo_33 hs33 (by decide) ?_
    refine lv_iconst (v := 0) hx hb dX1_testIsSo_145 (by decide) ?_
    exact re_S hx hb hr hlocks (rfl) dX1_testIsSo_146 (by obtain ⟨z0, z1, z2, z3, z4, z5⟩ := sw5 hs33; rw [tso, if_neg z0, if_neg z1, if_neg z2, if_neg z3, if_neg z4, if_neg z5]; rfl)
  · have hz33 : (f (a * 11 + 0)).toInt = 0 ∨ (f (a * 11 + 0)).toInt = 1 ∨ (f (a * 11 + 0)).toInt = 2 ∨ (f (a * 11 + 0)).toInt = 3 ∨ (f (a * 11 + 0)).toInt = 4 ∨ (f (a * 11 + 0)).toInt = 5 := by omega
    rcases hz33 with hz33 | hz33 | hz33 | hz33 | hz33 | hz33
    · refine lv_tableIn (off := 39) (tgt := 72) hx hb dX1_testIsSo_33 (by omega) (by omega) (by rw [hz33]; rfl) (by decide) ?_
      have hz33 : (f (a * 11 + 0)) = 0 := Int32.toInt_inj.mp (hz33.trans rfl)
      refine lv_iconst (v := 1) hx hb dX1_testIsSo_72 (by decide) ?_
      exact re_S hx hb hr hlocks (rfl) dX1_testIsSo_73 (by unfold tso; rw [hz33]; simp [bi])
    · refine lv_tableIn (off := 41) (tgt := 74) hx hb dX1_testIsSo_33 (by omega) (by omega) (by rw [hz33]; rfl) (by decide) ?_
      have hz33 : (f (a * 11 + 0)) = 1 := Int32.toInt_inj.mp (hz33.trans rfl)
      refine lv_iload hx hb dX1_testIsSo_74 (lv_at hl 0 rfl) ?_
      refine lv_iload_n hx hb dX1_testIsSo_76 rfl (lv_at hl 2 rfl) ?_
      refine lv_iload hx hb dX1_testIsSo_77 (lv_at hl 1 rfl) ?_
      refine cSe (rSN (As := [_, _, _]) ⟨hx, hb, hml, hown, hts⟩ (k_X10_within l ) ⟨va_cnB 3 hts (gdI tw_211) rfl rfl rfl hw.2.2.2.1.1 (hts _ tw_2) (by decide +kernel) ⟨Nat.le_of_ble_eq_true rfl, Nat.le_of_ble_eq_true rfl⟩, hts _ tw_210, trivial⟩ rfl hl.1 rfl (by first | exact Nat.le_of_ble_eq_true rfl | decide) dX1_testIsSo_79 ⟨Nat.zero_le _, Nat.zero_le _⟩) ?_
      exact re_S hx hb hr hlocks (bi_n _) dX1_testIsSo_82 (by unfold tso; rw [hz33]; simp [bi])
    · refine lv_tableIn (off := 50) (tgt := 83) hx hb dX1_testIsSo_33 (by omega) (by omega) (by rw [hz33]; rfl) (by decide) ?_
      have hz33 : (f (a * 11 + 0)) = 2 := Int32.toInt_inj.mp (hz33.trans rfl)
      refine lv_iload hx hb dX1_testIsSo_83 (lv_at hl 0 rfl) ?_
      refine lv_iload_n hx hb dX1_testIsSo_85 rfl (lv_at hl 2 rfl) ?_
      refine lv_iload hx hb dX1_testIsSo_86 (lv_at hl 1 rfl) ?_
      refine cSe (rSN (As := [_, _, _]) ⟨hx, hb, hml, hown, hts⟩ (k_X10_within l ) ⟨va_cnB 3 hts (gdI tw_211) rfl rfl rfl hw.2.2.2.1.1 (hts _ tw_2) (by decide +kernel) ⟨Nat.le_of_ble_eq_true rfl, Nat.le_of_ble_eq_true rfl⟩, hts _ tw_210, trivial⟩ rfl hl.1 rfl (by first | exact Nat.le_of_ble_eq_true rfl | decide) dX1_testIsSo_88 ⟨Nat.zero_le _, Nat.zero_le _⟩) ?_
      refine zb_ne (tgt := 98) hx hb dX1_testIsSo_91 (by decide) (fun c91 => ?_) (fun c91 => ?_)
      · refine lv_iconst (v := 0) hx hb dX1_testIsSo_98 (by decide) ?_
        exact re_S hx hb hr hlocks (rfl) dX1_testIsSo_99 (by unfold tso; rw [hz33]; simp [bi, c91])
      · refine lv_iconst (v := 1) hx hb dX1_testIsSo_94 (by decide) ?_
        refine lv_goto (tgt := 99) hx hb dX1_testIsSo_95 (by decide) ?_
        exact re_S hx hb hr hlocks (rfl) dX1_testIsSo_99 (by unfold tso; rw [hz33]; simp [bi, c91])
    · refine lv_tableIn (off := 67) (tgt := 100) hx hb dX1_testIsSo_33 (by omega) (by omega) (by rw [hz33]; rfl) (by decide) ?_
      have hz33 : (f (a * 11 + 0)) = 3 := Int32.toInt_inj.mp (hz33.trans rfl)
      refine lv_iload_n hx hb dX1_testIsSo_100 rfl (lv_at hl 5 rfl) ?_
      refine lv_iconst (v := 4) hx hb dX1_testIsSo_101 (by decide) ?_
      refine cSe (rST (As := [_, _]) ⟨hx, hb, hml, hown, hts⟩ (k_X9_told l hp0) (cv_X9_told hts tw_304 rfl rfl ⟨Nat.le_of_ble_eq_true rfl, Nat.le_of_ble_eq_true rfl⟩) rfl hl.1 rfl (by first | exact Nat.le_of_ble_eq_true rfl | decide) dX1_testIsSo_102 ⟨Nat.zero_le _, Nat.zero_le _⟩) ?_
      refine lv_iload_n hx hb dX1_testIsSo_105 rfl (lv_at hl 2 rfl) ?_
      refine lv_iload hx hb dX1_testIsSo_106 (lv_at hl 1 rfl) ?_
      refine cSe (rST (As := [_, _, _]) ⟨hx, hb, hml, hown, hts⟩ (k_X1_marksAreSo l ) (cv_X1_marksAreSo hts tw_306 rfl rfl ⟨Nat.le_of_ble_eq_true rfl, Nat.le_of_ble_eq_true rfl⟩) rfl hl.1 rfl (by first | exact Nat.le_of_ble_eq_true rfl | decide) dX1_testIsSo_108 ⟨Nat.zero_le _, Nat.zero_le _⟩) ?_
      exact re_S hx hb hr hlocks (bi_n _) dX1_testIsSo_111 (by unfold tso; rw [hz33]; simp [bi])
    · refine lv_tableIn (off := 79) (tgt := 112) hx hb dX1_testIsSo_33 (by omega) (by omega) (by rw [hz33]; rfl) (by decide) ?_
      have hz33 : (f (a * 11 + 0)) = 4 := Int32.toInt_inj.mp (hz33.trans rfl)
      refine lv_iload_n hx hb dX1_testIsSo_112 rfl (lv_at hl 2 rfl) ?_
      refine lv_iload hx hb dX1_testIsSo_113 (lv_at hl 0 rfl) ?_
      refine lv_imul hx hb dX1_testIsSo_115 ?_
      refine lv_iload hx hb dX1_testIsSo_116 (lv_at hl 1 rfl) ?_
      refine lv_icmp_lt (tgt := 125) hx hb dX1_testIsSo_118 (by decide) (fun c118 => ?_) (fun c118 => ?_)
      · refine lv_iconst (v := 0) hx hb dX1_testIsSo_125 (by decide) ?_
        exact re_S hx hb hr hlocks (rfl) dX1_testIsSo_126 (by unfold tso; rw [hz33]; simp [bi, c118])
      · refine lv_iconst (v := 1) hx hb dX1_testIsSo_121 (by decide) ?_
        refine lv_goto (tgt := 126) hx hb dX1_testIsSo_122 (by decide) ?_
        exact re_S hx hb hr hlocks (rfl) dX1_testIsSo_126 (by unfold tso; rw [hz33]; simp [bi, c118])
    · refine lv_tableIn (off := 94) (tgt := 127) hx hb dX1_testIsSo_33 (by omega) (by omega) (by rw [hz33]; rfl) (by decide) ?_
      have hz33 : (f (a * 11 + 0)) = 5 := Int32.toInt_inj.mp (hz33.trans rfl)
      refine lv_iload_n hx hb dX1_testIsSo_127 rfl (lv_at hl 5 rfl) ?_
      refine lv_iconst (v := 0) hx hb dX1_testIsSo_128 (by decide) ?_
      refine cSe (rST (As := [_, _]) ⟨hx, hb, hml, hown, hts⟩ (k_X9_told l hp0) (cv_X9_told hts tw_304 rfl rfl ⟨Nat.le_of_ble_eq_true rfl, Nat.le_of_ble_eq_true rfl⟩) rfl hl.1 rfl (by first | exact Nat.le_of_ble_eq_true rfl | decide) dX1_testIsSo_129 ⟨Nat.zero_le _, Nat.zero_le _⟩) ?_
      refine lv_iload_n hx hb dX1_testIsSo_132 rfl (lv_at hl 5 rfl) ?_
      refine lv_iconst (v := 1) hx hb dX1_testIsSo_133 (by decide) ?_
      refine cSe (rST (As := [_, _]) ⟨hx, hb, hml, hown, hts⟩ (k_X9_told l hp0) (cv_X9_told hts tw_304 rfl rfl ⟨Nat.le_of_ble_eq_true rfl, Nat.le_of_ble_eq_true rfl⟩) rfl hl.1 rfl (by first | exact Nat.le_of_ble_eq_true rfl | decide) dX1_testIsSo_134 ⟨Nat.zero_le _, Nat.zero_le _⟩) ?_
      refine lv_iadd hx hb dX1_testIsSo_137 ?_
      refine lv_iload_n hx hb dX1_testIsSo_138 rfl (lv_at hl 2 rfl) ?_
      refine lv_iload hx hb dX1_testIsSo_139 (lv_at hl 1 rfl) ?_
      refine cSe (rSN (As := [_, _, _]) ⟨hx, hb, hml, hown, hts⟩ (k_X10_within l ) ⟨va_cnB 3 hts (gdI tw_211) rfl rfl rfl hw.2.2.2.1.1 (hts _ tw_2) (by decide +kernel) ⟨Nat.le_of_ble_eq_true rfl, Nat.le_of_ble_eq_true rfl⟩, hts _ tw_210, trivial⟩ rfl hl.1 rfl (by first | exact Nat.le_of_ble_eq_true rfl | decide) dX1_testIsSo_141 ⟨Nat.zero_le _, Nat.zero_le _⟩) ?_
      exact re_S hx hb hr hlocks (bi_n _) dX1_testIsSo_144 (by unfold tso; rw [hz33]; simp [bi])
set_option maxHeartbeats 4000000 in
set_option maxRecDepth 100000 in
theorem k_X1_holding (l : Launch) {G : GT} {c : Nat → va_E} {k j n : Nat} {f : Nat → Int32} (hk : k < 45) (hj : j < 45) (h1 : c k = .inr (0, [.ref (gad G j), .int (nI n)])) (h2 : c j = .inl (gI G, 132, .inl f)) (hn : n ≤ 12) {p0 : Nat} {d : Int32} (hp0 : p0 < 25600000) : Met l yX1_holding (wv yX1_holding cX1_holding 5 (some .int)) ({ frames := 2, cells := 0, slots := 0, locals := 47 } : Room) (va_Pc [.ref (gad G k), .int (nI p0), .int d] (fun U => Hw G c U U.heap)) (vp_Si (fun r => r = mskU (hbf f p0 d) n)) 0 0 (fun _ => False) := by
  refine en (by decide +kernel) (by first | exact Nat.le_of_ble_eq_true rfl | decide) ?_
  intro p e s m below meth cd ls hx hb hr hml hown hts hlocks hnm hw hl
  have hl : lv_has ls 5 [(0, .ref (gad G k)), (1, .int (nI p0)), (2, .int d)] := hl
  refine lv_iconst (v := 0) hx hb dX1_holding_0 (by decide) ?_
  refine lv_istore_n (lv' := [(3, _), (0, _), (1, _), (2, _)]) hx hb dX1_holding_1 rfl hl (by decide) rfl (fun ls hl => ?_)
  refine lv_iconst (v := 0) hx hb dX1_holding_2 (by decide) ?_
  refine lv_istore (lv' := [(4, _), (3, _), (0, _), (1, _), (2, _)]) hx hb dX1_holding_3 hl (by decide) rfl (fun ls hl => ?_)
  have L5 : ∀ (N : Nat) (i : Nat) (x : Int32), (i + N = n) → (x = mskU (hbf f p0 d) i) → ∀ ls : Array Slot, lv_has ls 5 [(4, .int (nI i)), (3, .int x), (2, .int d), (1, .int (nI p0)), (0, .ref (gad G k))] → W p l e ({ frames := 2, cells := 0, slots := 0, locals := 47 } : Room) s m (([.ref (gad G k), .int (nI p0), .int d] : List Value).toArray) below meth cd s.heap [] 0 0 (MQ below (vp_Si (fun r => r = mskU (hbf f p0 d) n)) ([.ref (gad G k), .int (nI p0), .int d] : List Value).toArray s 0 0 (fun _ => False)) (F0 m 5 ls []) := by
    intro N
    induction N with
    | zero =>
      intro i  x  hN hA ls hl
      obtain rfl : i = n := by omega
      refine lv_iload hx hb dX1_holding_5 (lv_at hl 0 rfl) ?_
      refine lv_aload_n hx hb dX1_holding_7 rfl (lv_at hl 4 rfl) ?_
      refine w_get (C := RX1) (T := TX1) (N := 2) 1 hx hb hts inX1 hown hw hk h1 rfl (by decide) (hts _ tw_37) rfl dX1_holding_8 ?_
      refine lv_icmp_ge (tgt := 47) hx hb dX1_holding_11 (by decide) (fun c11 => ?_) (fun q => absurd (Int32.le_refl _) q)
      refine lv_iload_n hx hb dX1_holding_47 rfl (lv_at hl 1 rfl) ?_
      exact re_S hx hb hr hlocks (rfl) dX1_holding_48 (hA)
    | succ N ih =>
      intro i  x  hN hA ls hl
      refine lv_iload hx hb dX1_holding_5 (lv_at hl 0 rfl) ?_
      refine lv_aload_n hx hb dX1_holding_7 rfl (lv_at hl 4 rfl) ?_
      refine w_get (C := RX1) (T := TX1) (N := 2) 1 hx hb hts inX1 hown hw hk h1 rfl (by decide) (hts _ tw_37) rfl dX1_holding_8 ?_
      refine lv_icmp_ge (tgt := 47) hx hb dX1_holding_11 (by decide) (fun q => absurd q (nI_ge (by omega) (by omega))) (fun c11 => ?_)
      refine lv_aload_n hx hb dX1_holding_14 rfl (lv_at hl 4 rfl) ?_
      refine lv_iload hx hb dX1_holding_15 (lv_at hl 0 rfl) ?_
      refine lv_iload_n hx hb dX1_holding_17 rfl (lv_at hl 2 rfl) ?_
      refine cSe (rV (As := [_, _]) ⟨hx, hb, hml, hown, hts⟩ hw (k_X1_spanHas l hk hj h1 h2 hn (by omega)) (cv_X1_spanHas hts tw_295 rfl rfl ⟨Nat.le_of_ble_eq_true rfl, Nat.le_of_ble_eq_true rfl⟩) hk h1 rfl rfl hl.1 rfl (by first | exact Nat.le_of_ble_eq_true rfl | decide) dX1_holding_18 ⟨Nat.zero_le _, Nat.zero_le _⟩) ?_
      refine zb_eq (tgt := 41) hx hb dX1_holding_21 (by decide) (fun c21 => ?_) (fun c21 => ?_)
      · refine lv_iinc (v := nI (i + 1)) (lv' := [(4, _), (3, _), (2, _), (1, _), (0, _)]) hx hb dX1_holding_41 hl (k := 0) rfl (inc1 i) (by decide) rfl (fun ls hl => ?_)
        refine lv_goto (tgt := 5) hx hb dX1_holding_44 (by decide) ?_
        exact ih (i + 1) _ (by omega) (by rw [mskU, hA, hbf]; simp [c21]) ls (lv_sub hl [0, 1, 2, 3, 4] rfl)
      · refine lv_aload_n hx hb dX1_holding_24 rfl (lv_at hl 4 rfl) ?_
        refine lv_iload hx hb dX1_holding_25 (lv_at hl 0 rfl) ?_
        refine lv_iload_n hx hb dX1_holding_27 rfl (lv_at hl 3 rfl) ?_
        refine cSe (rV (As := [_, _]) ⟨hx, hb, hml, hown, hts⟩ hw (k_X1_testIsSo l hk hj h1 h2 hn (by omega) hp0) (cv_X1_testIsSo hts tw_300 rfl rfl ⟨Nat.le_of_ble_eq_true rfl, Nat.le_of_ble_eq_true rfl⟩) hk h1 rfl rfl hl.1 rfl (by first | exact Nat.le_of_ble_eq_true rfl | decide) dX1_holding_28 ⟨Nat.zero_le _, Nat.zero_le _⟩) ?_
        refine zb_eq (tgt := 41) hx hb dX1_holding_31 (by decide) (fun c31 => ?_) (fun c31 => ?_)
        · refine lv_iinc (v := nI (i + 1)) (lv' := [(4, _), (3, _), (2, _), (1, _), (0, _)]) hx hb dX1_holding_41 hl (k := 0) rfl (inc1 i) (by decide) rfl (fun ls hl => ?_)
          refine lv_goto (tgt := 5) hx hb dX1_holding_44 (by decide) ?_
          exact ih (i + 1) _ (by omega) (by rw [mskU, hA, hbf]; simp [c21, c31]) ls (lv_sub hl [0, 1, 2, 3, 4] rfl)
        · refine lv_iload_n hx hb dX1_holding_34 rfl (lv_at hl 1 rfl) ?_
          refine lv_iconst (v := 1) hx hb dX1_holding_35 (by decide) ?_
          refine lv_iload hx hb dX1_holding_36 (lv_at hl 0 rfl) ?_
          refine lv_ishl hx hb dX1_holding_38 ?_
          refine lv_ior hx hb dX1_holding_39 ?_
          refine lv_istore_n (lv' := [(3, _), (4, _), (2, _), (1, _), (0, _)]) hx hb dX1_holding_40 rfl hl (by decide) rfl (fun ls hl => ?_)
          refine lv_iinc (v := nI (i + 1)) (lv' := [(4, _), (3, _), (2, _), (1, _), (0, _)]) hx hb dX1_holding_41 hl (k := 1) rfl (inc1 i) (by decide) rfl (fun ls hl => ?_)
          refine lv_goto (tgt := 5) hx hb dX1_holding_44 (by decide) ?_
          exact ih (i + 1) _ (by omega) (by rw [mskU, hA, hbf]; simp [c21, c31]) ls (lv_sub hl [0, 1, 2, 3, 4] rfl)
  exact L5 n 0 0 (by omega) rfl ls (lv_sub hl [0, 1, 4, 3, 2] rfl)
set_option maxHeartbeats 4000000 in
set_option maxRecDepth 100000 in
theorem k_X1_standing (l : Launch) {G : GT} {c : Nat → va_E} {k j n : Nat} {f : Nat → Int32} (hk : k < 45) (hj : j < 45) (h1 : c k = .inr (0, [.ref (gad G j), .int (nI n)])) (h2 : c j = .inl (gI G, 132, .inl f)) (hn : n ≤ 12) {h : Int32} : Met l yX1_standing (wv yX1_standing cX1_standing 5 (some .int)) ({ frames := 1, cells := 0, slots := 0, locals := 22 } : Room) (va_Pc [.ref (gad G k), .int h] (fun U => Hw G c U U.heap)) (vp_Si (fun r => r = (stD f (fun c => isn h (nI c)) n n).1)) 0 0 (fun _ => False) := by
  refine en (by decide +kernel) (by first | exact Nat.le_of_ble_eq_true rfl | decide) ?_
  intro p e s m below meth cd ls hx hb hr hml hown hts hlocks hnm hw hl
  have hl : lv_has ls 5 [(0, .ref (gad G k)), (1, .int h)] := hl
  refine lv_iconst (v := 0) hx hb dX1_standing_0 (by decide) ?_
  refine lv_istore_n (lv' := [(2, _), (0, _), (1, _)]) hx hb dX1_standing_1 rfl hl (by decide) rfl (fun ls hl => ?_)
  refine lv_iconst (v := 0) hx hb dX1_standing_2 (by decide) ?_
  refine lv_istore_n (lv' := [(3, _), (2, _), (0, _), (1, _)]) hx hb dX1_standing_3 rfl hl (by decide) rfl (fun ls hl => ?_)
  refine lv_aload_n hx hb dX1_standing_4 rfl (lv_at hl 2 rfl) ?_
  refine w_get (C := RX1) (T := TX1) (N := 2) 1 hx hb hts inX1 hown hw hk h1 rfl (by decide) (hts _ tw_37) rfl dX1_standing_5 ?_
  refine lv_iconst (v := 1) hx hb dX1_standing_8 (by decide) ?_
  refine lv_isub hx hb dX1_standing_9 ?_
  refine lv_istore (lv' := [(4, _), (3, _), (2, _), (0, _), (1, _)]) hx hb dX1_standing_10 hl (by decide) rfl (fun ls hl => ?_)
  have L12 : ∀ (N : Nat) (x y : Int32), (N ≤ n) → ((x, y) = stD f (fun c => isn h (nI c)) n (n - N)) → ∀ ls : Array Slot, lv_has ls 5 [(4, .int (nI N - 1)), (3, .int y), (2, .int x), (1, .int h), (0, .ref (gad G k))] → W p l e ({ frames := 1, cells := 0, slots := 0, locals := 22 } : Room) s m (([.ref (gad G k), .int h] : List Value).toArray) below meth cd s.heap [] 0 0 (MQ below (vp_Si (fun r => r = (stD f (fun c => isn h (nI c)) n n).1)) ([.ref (gad G k), .int h] : List Value).toArray s 0 0 (fun _ => False)) (F0 m 12 ls []) := by
    intro N
    induction N with
    | zero =>
      intro x y  hN hA ls hl
      rw [Nat.sub_zero] at hA
      refine lv_iload hx hb dX1_standing_12 (lv_at hl 0 rfl) ?_
      refine lv_if_lt (tgt := 73) hx hb dX1_standing_14 (by decide) (fun c14 => ?_) (fun q => absurd (by decide) q)
      refine lv_iload_n hx hb dX1_standing_73 rfl (lv_at hl 2 rfl) ?_
      exact re_S hx hb hr hlocks (rfl) dX1_standing_74 (by rw [← hA])
    | succ N ih =>
      intro x y  hN hA ls hl
      rw [nI_pred] at hl
      refine lv_iload hx hb dX1_standing_12 (lv_at hl 0 rfl) ?_
      refine lv_if_lt (tgt := 73) hx hb dX1_standing_14 (by decide) (fun q => absurd q (nI_pos (by omega))) (fun c14 => ?_)
      refine lv_iload_n hx hb dX1_standing_17 rfl (lv_at hl 3 rfl) ?_
      refine lv_iload hx hb dX1_standing_18 (lv_at hl 0 rfl) ?_
      refine cSe (rST (As := [_, _]) ⟨hx, hb, hml, hown, hts⟩ (k_X1_isIn l ) (cv_X1_isIn hts tw_317 rfl rfl ⟨Nat.le_of_ble_eq_true rfl, Nat.le_of_ble_eq_true rfl⟩) rfl hl.1 rfl (by first | exact Nat.le_of_ble_eq_true rfl | decide) dX1_standing_20 ⟨Nat.zero_le _, Nat.zero_le _⟩) ?_
      refine zb_eq (tgt := 67) hx hb dX1_standing_23 (by decide) (fun c23 => ?_) (fun c23 => ?_)
      · refine lv_iinc (v := nI N - 1) (lv' := [(4, _), (3, _), (2, _), (1, _), (0, _)]) hx hb dX1_standing_67 hl (k := 0) rfl (incm _) (by decide) rfl (fun ls hl => ?_)
        refine lv_goto (tgt := 12) hx hb dX1_standing_70 (by decide) ?_
        exact ih _ _ (by omega) (by rw [stD_s hN, ← hA]; simp [stp, c23]) ls (lv_sub hl [0, 1, 2, 3, 4] rfl)
      · refine lv_iload_n hx hb dX1_standing_26 rfl (lv_at hl 1 rfl) ?_
        refine lv_iload hx hb dX1_standing_27 (lv_at hl 0 rfl) ?_
        refine cSe (rST (As := [_, _]) ⟨hx, hb, hml, hown, hts⟩ (k_X1_isIn l ) (cv_X1_isIn hts tw_317 rfl rfl ⟨Nat.le_of_ble_eq_true rfl, Nat.le_of_ble_eq_true rfl⟩) rfl hl.1 rfl (by first | exact Nat.le_of_ble_eq_true rfl | decide) dX1_standing_29 ⟨Nat.zero_le _, Nat.zero_le _⟩) ?_
        refine zb_ne (tgt := 67) hx hb dX1_standing_32 (by decide) (fun c32 => ?_) (fun c32 => ?_)
        · refine lv_iinc (v := nI N - 1) (lv' := [(4, _), (3, _), (2, _), (1, _), (0, _)]) hx hb dX1_standing_67 hl (k := 0) rfl (incm _) (by decide) rfl (fun ls hl => ?_)
          refine lv_goto (tgt := 12) hx hb dX1_standing_70 (by decide) ?_
          exact ih _ _ (by omega) (by rw [stD_s hN, ← hA]; simp [stp, c23, c32]) ls (lv_sub hl [0, 1, 2, 3, 4] rfl)
        · refine lv_iload_n hx hb dX1_standing_35 rfl (lv_at hl 2 rfl) ?_
          refine lv_iconst (v := 1) hx hb dX1_standing_36 (by decide) ?_
          refine lv_iload hx hb dX1_standing_37 (lv_at hl 0 rfl) ?_
          refine lv_ishl hx hb dX1_standing_39 ?_
          refine lv_ior hx hb dX1_standing_40 ?_
          refine lv_istore_n (lv' := [(2, _), (4, _), (3, _), (1, _), (0, _)]) hx hb dX1_standing_41 rfl hl (by decide) rfl (fun ls hl => ?_)
          refine lv_aload_n hx hb dX1_standing_42 rfl (lv_at hl 4 rfl) ?_
          refine lv_iload hx hb dX1_standing_43 (lv_at hl 1 rfl) ?_
          refine lv_bipush (v := 10) hx hb dX1_standing_45 (by decide) ?_
          refine cSe (rV (As := [_, _]) ⟨hx, hb, hml, hown, hts⟩ hw (k_X1_at l hk hj h1 h2 hn (ix N 10) (by omega)) (cv_X1_at hts tw_299 rfl rfl ⟨Nat.le_of_ble_eq_true rfl, Nat.le_of_ble_eq_true rfl⟩) hk h1 rfl rfl hl.1 rfl (by first | exact Nat.le_of_ble_eq_true rfl | decide) dX1_standing_47 ⟨Nat.zero_le _, Nat.zero_le _⟩) ?_
          refine lv_iconst (v := (-1)) hx hb dX1_standing_50 (by decide) ?_
          refine lv_icmp_eq (tgt := 67) hx hb dX1_standing_51 (by decide) (fun c51 => ?_) (fun c51 => ?_)
          · refine lv_iinc (v := nI N - 1) (lv' := [(4, _), (2, _), (3, _), (1, _), (0, _)]) hx hb dX1_standing_67 hl (k := 1) rfl (incm _) (by decide) rfl (fun ls hl => ?_)
            refine lv_goto (tgt := 12) hx hb dX1_standing_70 (by decide) ?_
            exact ih _ _ (by omega) (by rw [stD_s hN, ← hA]; simp [stp, c23, c32, c51]) ls (lv_sub hl [0, 2, 1, 3, 4] rfl)
          · refine lv_iload_n hx hb dX1_standing_54 rfl (lv_at hl 2 rfl) ?_
            refine lv_iconst (v := 1) hx hb dX1_standing_55 (by decide) ?_
            refine lv_aload_n hx hb dX1_standing_56 rfl (lv_at hl 4 rfl) ?_
            refine lv_iload hx hb dX1_standing_57 (lv_at hl 1 rfl) ?_
            refine lv_bipush (v := 10) hx hb dX1_standing_59 (by decide) ?_
            refine cSe (rV (As := [_, _]) ⟨hx, hb, hml, hown, hts⟩ hw (k_X1_at l hk hj h1 h2 hn (ix N 10) (by omega)) (cv_X1_at hts tw_299 rfl rfl ⟨Nat.le_of_ble_eq_true rfl, Nat.le_of_ble_eq_true rfl⟩) hk h1 rfl rfl hl.1 rfl (by first | exact Nat.le_of_ble_eq_true rfl | decide) dX1_standing_61 ⟨Nat.zero_le _, Nat.zero_le _⟩) ?_
            refine lv_ishl hx hb dX1_standing_64 ?_
            refine lv_ior hx hb dX1_standing_65 ?_
            refine lv_istore_n (lv' := [(3, _), (2, _), (4, _), (1, _), (0, _)]) hx hb dX1_standing_66 rfl hl (by decide) rfl (fun ls hl => ?_)
            refine lv_iinc (v := nI N - 1) (lv' := [(4, _), (3, _), (2, _), (1, _), (0, _)]) hx hb dX1_standing_67 hl (k := 2) rfl (incm _) (by decide) rfl (fun ls hl => ?_)
            refine lv_goto (tgt := 12) hx hb dX1_standing_70 (by decide) ?_
            exact ih _ _ (by omega) (by rw [stD_s hN, ← hA]; simp [stp, c23, c32, c51]) ls (lv_sub hl [0, 1, 2, 3, 4] rfl)
  exact L12 n 0 0 (Nat.le_refl n) (by rw [Nat.sub_self]; rfl) ls (lv_sub hl [0, 1, 2, 4, 3] rfl)
set_option maxHeartbeats 4000000 in
set_option maxRecDepth 100000 in
theorem k_X1_counting (l : Launch) {G : GT} {c : Nat → va_E} {k j n : Nat} {f : Nat → Int32} (hk : k < 45) (hj : j < 45) (h1 : c k = .inr (0, [.ref (gad G j), .int (nI n)])) (h2 : c j = .inl (gI G, 132, .inl f)) (hn : n ≤ 12) {h : Int32} : Met l yX1_counting (wv yX1_counting cX1_counting 6 (some .int)) ({ frames := 2, cells := 0, slots := 0, locals := 46 } : Room) (va_Pc [.ref (gad G k), .int h] (fun U => Hw G c U U.heap)) (vp_Si (fun r => r = mskU (cnb f h (stD f (fun c => isn h (nI c)) n n).1) n)) 0 0 (fun _ => False) := by
  refine en (by decide +kernel) (by first | exact Nat.le_of_ble_eq_true rfl | decide) ?_
  intro p e s m below meth cd ls hx hb hr hml hown hts hlocks hnm hw hl
  have hl : lv_has ls 6 [(0, .ref (gad G k)), (1, .int h)] := hl
  refine lv_aload_n hx hb dX1_counting_0 rfl (lv_at hl 0 rfl) ?_
  refine lv_iload_n hx hb dX1_counting_1 rfl (lv_at hl 1 rfl) ?_
  refine cSe (rV (As := [_]) ⟨hx, hb, hml, hown, hts⟩ hw (k_X1_standing l hk hj h1 h2 hn) (cv_X1_standing hts tw_313 rfl rfl ⟨Nat.le_of_ble_eq_true rfl, Nat.le_of_ble_eq_true rfl⟩) hk h1 rfl rfl hl.1 rfl (by first | exact Nat.le_of_ble_eq_true rfl | decide) dX1_counting_2 ⟨Nat.zero_le _, Nat.zero_le _⟩) ?_
  refine lv_istore_n (lv' := [(2, _), (0, _), (1, _)]) hx hb dX1_counting_5 rfl hl (by decide) rfl (fun ls hl => ?_)
  refine lv_iconst (v := 0) hx hb dX1_counting_6 (by decide) ?_
  refine lv_istore_n (lv' := [(3, _), (2, _), (0, _), (1, _)]) hx hb dX1_counting_7 rfl hl (by decide) rfl (fun ls hl => ?_)
  refine lv_iconst (v := 0) hx hb dX1_counting_8 (by decide) ?_
  refine lv_istore (lv' := [(4, _), (3, _), (2, _), (0, _), (1, _)]) hx hb dX1_counting_9 hl (by decide) rfl (fun ls hl => ?_)
  have L11 : ∀ (N : Nat) (i : Nat) (x : Int32), (i + N = n) → (x = mskU (cnb f h (stD f (fun c => isn h (nI c)) n n).1) i) → ∀ ls : Array Slot, lv_has ls 6 [(4, .int (nI i)), (3, .int x), (2, .int (stD f (fun c => isn h (nI c)) n n).1), (1, .int h), (0, .ref (gad G k))] → W p l e ({ frames := 2, cells := 0, slots := 0, locals := 46 } : Room) s m (([.ref (gad G k), .int h] : List Value).toArray) below meth cd s.heap [] 0 0 (MQ below (vp_Si (fun r => r = mskU (cnb f h (stD f (fun c => isn h (nI c)) n n).1) n)) ([.ref (gad G k), .int h] : List Value).toArray s 0 0 (fun _ => False)) (F0 m 11 ls []) := by
    intro N
    induction N with
    | zero =>
      intro i  x  hN hA ls hl
      obtain rfl : i = n := by omega
      refine lv_iload hx hb dX1_counting_11 (lv_at hl 0 rfl) ?_
      refine lv_aload_n hx hb dX1_counting_13 rfl (lv_at hl 4 rfl) ?_
      refine w_get (C := RX1) (T := TX1) (N := 2) 1 hx hb hts inX1 hown hw hk h1 rfl (by decide) (hts _ tw_37) rfl dX1_counting_14 ?_
      refine lv_icmp_ge (tgt := 67) hx hb dX1_counting_17 (by decide) (fun c17 => ?_) (fun q => absurd (Int32.le_refl _) q)
      refine lv_iload_n hx hb dX1_counting_67 rfl (lv_at hl 1 rfl) ?_
      exact re_S hx hb hr hlocks (rfl) dX1_counting_68 (hA)
    | succ N ih =>
      intro i  x  hN hA ls hl
      refine lv_iload hx hb dX1_counting_11 (lv_at hl 0 rfl) ?_
      refine lv_aload_n hx hb dX1_counting_13 rfl (lv_at hl 4 rfl) ?_
      refine w_get (C := RX1) (T := TX1) (N := 2) 1 hx hb hts inX1 hown hw hk h1 rfl (by decide) (hts _ tw_37) rfl dX1_counting_14 ?_
      refine lv_icmp_ge (tgt := 67) hx hb dX1_counting_17 (by decide) (fun q => absurd q (nI_ge (by omega) (by omega))) (fun c17 => ?_)
      refine lv_aload_n hx hb dX1_counting_20 rfl (lv_at hl 4 rfl) ?_
      refine lv_iload hx hb dX1_counting_21 (lv_at hl 0 rfl) ?_
      refine lv_bipush (v := 10) hx hb dX1_counting_23 (by decide) ?_
      refine cSe (rV (As := [_, _]) ⟨hx, hb, hml, hown, hts⟩ hw (k_X1_at l hk hj h1 h2 hn (ix i 10) (by omega)) (cv_X1_at hts tw_299 rfl rfl ⟨Nat.le_of_ble_eq_true rfl, Nat.le_of_ble_eq_true rfl⟩) hk h1 rfl rfl hl.1 rfl (by first | exact Nat.le_of_ble_eq_true rfl | decide) dX1_counting_25 ⟨Nat.zero_le _, Nat.zero_le _⟩) ?_
      refine lv_istore (lv' := [(5, _), (4, _), (3, _), (2, _), (1, _), (0, _)]) hx hb dX1_counting_28 hl (by decide) rfl (fun ls hl => ?_)
      refine lv_iload_n hx hb dX1_counting_30 rfl (lv_at hl 3 rfl) ?_
      refine lv_iload hx hb dX1_counting_31 (lv_at hl 1 rfl) ?_
      refine cSe (rST (As := [_, _]) ⟨hx, hb, hml, hown, hts⟩ (k_X1_isIn l ) (cv_X1_isIn hts tw_317 rfl rfl ⟨Nat.le_of_ble_eq_true rfl, Nat.le_of_ble_eq_true rfl⟩) rfl hl.1 rfl (by first | exact Nat.le_of_ble_eq_true rfl | decide) dX1_counting_33 ⟨Nat.zero_le _, Nat.zero_le _⟩) ?_
      refine zb_eq (tgt := 61) hx hb dX1_counting_36 (by decide) (fun c36 => ?_) (fun c36 => ?_)
      · refine lv_iinc (v := nI (i + 1)) (lv' := [(4, _), (5, _), (3, _), (2, _), (1, _), (0, _)]) hx hb dX1_counting_61 hl (k := 1) rfl (inc1 i) (by decide) rfl (fun ls hl => ?_)
        refine lv_goto (tgt := 11) hx hb dX1_counting_64 (by decide) ?_
        exact ih (i + 1) _ (by omega) (by rw [mskU, hA, cnb]; simp [c36]) ls (lv_sub hl [0, 2, 3, 4, 5] rfl)
      · refine lv_iload hx hb dX1_counting_39 (lv_at hl 0 rfl) ?_
        refine lv_iconst (v := (-1)) hx hb dX1_counting_41 (by decide) ?_
        refine lv_icmp_eq (tgt := 54) hx hb dX1_counting_42 (by decide) (fun c42 => ?_) (fun c42 => ?_)
        · refine lv_iload_n hx hb dX1_counting_54 rfl (lv_at hl 2 rfl) ?_
          refine lv_iconst (v := 1) hx hb dX1_counting_55 (by decide) ?_
          refine lv_iload hx hb dX1_counting_56 (lv_at hl 1 rfl) ?_
          refine lv_ishl hx hb dX1_counting_58 ?_
          refine lv_ior hx hb dX1_counting_59 ?_
          refine lv_istore_n (lv' := [(3, _), (5, _), (4, _), (2, _), (1, _), (0, _)]) hx hb dX1_counting_60 rfl hl (by decide) rfl (fun ls hl => ?_)
          refine lv_iinc (v := nI (i + 1)) (lv' := [(4, _), (3, _), (5, _), (2, _), (1, _), (0, _)]) hx hb dX1_counting_61 hl (k := 2) rfl (inc1 i) (by decide) rfl (fun ls hl => ?_)
          refine lv_goto (tgt := 11) hx hb dX1_counting_64 (by decide) ?_
          exact ih (i + 1) _ (by omega) (by rw [mskU, hA, cnb]; simp [c36, c42]) ls (lv_sub hl [0, 1, 3, 4, 5] rfl)
        · refine lv_iload_n hx hb dX1_counting_45 rfl (lv_at hl 4 rfl) ?_
          refine lv_iload hx hb dX1_counting_46 (lv_at hl 0 rfl) ?_
          refine cSe (rST (As := [_, _]) ⟨hx, hb, hml, hown, hts⟩ (k_X1_isIn l ) (cv_X1_isIn hts tw_317 rfl rfl ⟨Nat.le_of_ble_eq_true rfl, Nat.le_of_ble_eq_true rfl⟩) rfl hl.1 rfl (by first | exact Nat.le_of_ble_eq_true rfl | decide) dX1_counting_48 ⟨Nat.zero_le _, Nat.zero_le _⟩) ?_
          refine zb_eq (tgt := 61) hx hb dX1_counting_51 (by decide) (fun c51 => ?_) (fun c51 => ?_)
          · refine lv_iinc (v := nI (i + 1)) (lv' := [(4, _), (5, _), (3, _), (2, _), (1, _), (0, _)]) hx hb dX1_counting_61 hl (k := 1) rfl (inc1 i) (by decide) rfl (fun ls hl => ?_)
            refine lv_goto (tgt := 11) hx hb dX1_counting_64 (by decide) ?_
            exact ih (i + 1) _ (by omega) (by rw [mskU, hA, cnb]; simp [c36, c42, c51]) ls (lv_sub hl [0, 2, 3, 4, 5] rfl)
          · refine lv_iload_n hx hb dX1_counting_54 rfl (lv_at hl 2 rfl) ?_
            refine lv_iconst (v := 1) hx hb dX1_counting_55 (by decide) ?_
            refine lv_iload hx hb dX1_counting_56 (lv_at hl 1 rfl) ?_
            refine lv_ishl hx hb dX1_counting_58 ?_
            refine lv_ior hx hb dX1_counting_59 ?_
            refine lv_istore_n (lv' := [(3, _), (5, _), (4, _), (2, _), (1, _), (0, _)]) hx hb dX1_counting_60 rfl hl (by decide) rfl (fun ls hl => ?_)
            refine lv_iinc (v := nI (i + 1)) (lv' := [(4, _), (3, _), (5, _), (2, _), (1, _), (0, _)]) hx hb dX1_counting_61 hl (k := 2) rfl (inc1 i) (by decide) rfl (fun ls hl => ?_)
            refine lv_goto (tgt := 11) hx hb dX1_counting_64 (by decide) ?_
            exact ih (i + 1) _ (by omega) (by rw [mskU, hA, cnb]; simp [c36, c42, c51]) ls (lv_sub hl [0, 1, 3, 4, 5] rfl)
  exact L11 n 0 0 (by omega) rfl ls (lv_sub hl [0, 1, 2, 4, 3] rfl)
set_option maxHeartbeats 4000000 in
set_option maxRecDepth 100000 in
theorem k_X1_worth (l : Launch) {G : GT} {c : Nat → va_E} {k j n : Nat} {f : Nat → Int32} (hk : k < 45) (hj : j < 45) (h1 : c k = .inr (0, [.ref (gad G j), .int (nI n)])) (h2 : c j = .inl (gI G, 132, .inl f)) (hn : n ≤ 12) {a p0 : Nat} (ha : a < n) (hp0 : p0 < 25600000) : Met l yX1_worth (wv yX1_worth cX1_worth 6 (some .int)) ({ frames := 1, cells := 0, slots := 0, locals := 22 } : Room) (va_Pc [.ref (gad G k), .int (nI a), .int (nI p0)] (fun U => Hw G c U U.heap)) (vp_Si (fun r => r = wor f p0 a)) 0 0 (fun _ => False) := by
  refine en (by decide +kernel) (by first | exact Nat.le_of_ble_eq_true rfl | decide) ?_
  intro p e s m below meth cd ls hx hb hr hml hown hts hlocks hnm hw hl
  have hl : lv_has ls 6 [(0, .ref (gad G k)), (1, .int (nI a)), (2, .int (nI p0))] := hl
  refine lv_aload_n hx hb dX1_worth_0 rfl (lv_at hl 0 rfl) ?_
  refine lv_iload_n hx hb dX1_worth_1 rfl (lv_at hl 1 rfl) ?_
  refine lv_bipush (v := 6) hx hb dX1_worth_2 (by decide) ?_
  refine cSe (rV (As := [_, _]) ⟨hx, hb, hml, hown, hts⟩ hw (k_X1_at l hk hj h1 h2 hn (ix a 6) (by omega)) (cv_X1_at hts tw_299 rfl rfl ⟨Nat.le_of_ble_eq_true rfl, Nat.le_of_ble_eq_true rfl⟩) hk h1 rfl rfl hl.1 rfl (by first | exact Nat.le_of_ble_eq_true rfl | decide) dX1_worth_4 ⟨Nat.zero_le _, Nat.zero_le _⟩) ?_
  refine lv_istore_n (lv' := [(3, _), (0, _), (1, _), (2, _)]) hx hb dX1_worth_7 rfl hl (by decide) rfl (fun ls hl => ?_)
  refine lv_aload_n hx hb dX1_worth_8 rfl (lv_at hl 1 rfl) ?_
  refine lv_iload_n hx hb dX1_worth_9 rfl (lv_at hl 2 rfl) ?_
  refine lv_bipush (v := 7) hx hb dX1_worth_10 (by decide) ?_
  refine cSe (rV (As := [_, _]) ⟨hx, hb, hml, hown, hts⟩ hw (k_X1_at l hk hj h1 h2 hn (ix a 7) (by omega)) (cv_X1_at hts tw_299 rfl rfl ⟨Nat.le_of_ble_eq_true rfl, Nat.le_of_ble_eq_true rfl⟩) hk h1 rfl rfl hl.1 rfl (by first | exact Nat.le_of_ble_eq_true rfl | decide) dX1_worth_12 ⟨Nat.zero_le _, Nat.zero_le _⟩) ?_
  refine lv_istore (lv' := [(4, _), (3, _), (0, _), (1, _), (2, _)]) hx hb dX1_worth_15 hl (by decide) rfl (fun ls hl => ?_)
  refine lv_iload_n hx hb dX1_worth_17 rfl (lv_at hl 4 rfl) ?_
  refine lv_aload_n hx hb dX1_worth_18 rfl (lv_at hl 2 rfl) ?_
  refine lv_iload_n hx hb dX1_worth_19 rfl (lv_at hl 3 rfl) ?_
  refine lv_iconst (v := 5) hx hb dX1_worth_20 (by decide) ?_
  refine cSe (rV (As := [_, _]) ⟨hx, hb, hml, hown, hts⟩ hw (k_X1_at l hk hj h1 h2 hn (ix a 5) (by omega)) (cv_X1_at hts tw_299 rfl rfl ⟨Nat.le_of_ble_eq_true rfl, Nat.le_of_ble_eq_true rfl⟩) hk h1 rfl rfl hl.1 rfl (by first | exact Nat.le_of_ble_eq_true rfl | decide) dX1_worth_21 ⟨Nat.zero_le _, Nat.zero_le _⟩) ?_
  refine cSe (rST (As := [_, _]) ⟨hx, hb, hml, hown, hts⟩ (k_X9_told l hp0) (cv_X9_told hts tw_304 rfl rfl ⟨Nat.le_of_ble_eq_true rfl, Nat.le_of_ble_eq_true rfl⟩) rfl hl.1 rfl (by first | exact Nat.le_of_ble_eq_true rfl | decide) dX1_worth_24 ⟨Nat.zero_le _, Nat.zero_le _⟩) ?_
  refine lv_istore (lv' := [(5, _), (4, _), (3, _), (0, _), (1, _), (2, _)]) hx hb dX1_worth_27 hl (by decide) rfl (fun ls hl => ?_)
  refine lv_aload_n hx hb dX1_worth_29 rfl (lv_at hl 3 rfl) ?_
  refine lv_iload_n hx hb dX1_worth_30 rfl (lv_at hl 4 rfl) ?_
  refine lv_iconst (v := 4) hx hb dX1_worth_31 (by decide) ?_
  refine cSe (rV (As := [_, _]) ⟨hx, hb, hml, hown, hts⟩ hw (k_X1_at l hk hj h1 h2 hn (ix a 4) (by omega)) (cv_X1_at hts tw_299 rfl rfl ⟨Nat.le_of_ble_eq_true rfl, Nat.le_of_ble_eq_true rfl⟩) hk h1 rfl rfl hl.1 rfl (by first | exact Nat.le_of_ble_eq_true rfl | decide) dX1_worth_32 ⟨Nat.zero_le _, Nat.zero_le _⟩) ?_
  by_cases hs35 : (f (a * 11 + 4)).toInt < 0 ∨ 4 < (f (a * 11 + 4)).toInt
  · refine lv_tableOut (tgt := 107) hx hb dX1_worth_35 hs35 (by decide) ?_
    refine lv_iconst (v := 0) hx hb dX1_worth_107 (by decide) ?_
    exact re_S hx hb hr hlocks (rfl) dX1_worth_108 (by obtain ⟨z0, z1, z2, z3, z4⟩ := sw4 hs35; rw [wor, if_neg z0, if_neg z1, if_neg z2, if_neg z4])
  · have hz35 : (f (a * 11 + 4)).toInt = 0 ∨ (f (a * 11 + 4)).toInt = 1 ∨ (f (a * 11 + 4)).toInt = 2 ∨ (f (a * 11 + 4)).toInt = 3 ∨ (f (a * 11 + 4)).toInt = 4 := by omega
    rcases hz35 with hz35 | hz35 | hz35 | hz35 | hz35
    · refine lv_tableIn (off := 33) (tgt := 68) hx hb dX1_worth_35 (by omega) (by omega) (by rw [hz35]; rfl) (by decide) ?_
      have hz35 : (f (a * 11 + 4)) = 0 := Int32.toInt_inj.mp (hz35.trans rfl)
      refine lv_iload_n hx hb dX1_worth_68 rfl (lv_at hl 2 rfl) ?_
      exact re_S hx hb hr hlocks (rfl) dX1_worth_69 (by unfold wor; rw [hz35]; first | rfl | simp [])
    · refine lv_tableIn (off := 35) (tgt := 70) hx hb dX1_worth_35 (by omega) (by omega) (by rw [hz35]; rfl) (by decide) ?_
      have hz35 : (f (a * 11 + 4)) = 1 := Int32.toInt_inj.mp (hz35.trans rfl)
      refine lv_iload hx hb dX1_worth_70 (lv_at hl 1 rfl) ?_
      refine lv_iconst (v := 1) hx hb dX1_worth_72 (by decide) ?_
      refine lv_icmp_ge (tgt := 80) hx hb dX1_worth_73 (by decide) (fun c73 => ?_) (fun c73 => ?_)
      · refine lv_iload hx hb dX1_worth_80 (lv_at hl 0 rfl) ?_
        refine lv_iload hx hb dX1_worth_82 (lv_at hl 1 rfl) ?_
        refine lv_idiv hx hb dX1_worth_84 (fun q => by rw [q] at c73; revert c73; decide) ?_
        refine lv_iload_n hx hb dX1_worth_85 rfl (lv_at hl 2 rfl) ?_
        refine lv_imul hx hb dX1_worth_86 ?_
        exact re_S hx hb hr hlocks (rfl) dX1_worth_87 (by unfold wor; rw [hz35]; simp only [show ¬ ((1 : Int32) = 0) by decide, if_false, if_true]; first | rw [if_pos (Int32.not_le.mp c73)] | rw [if_neg (Int32.not_lt.mpr c73)])
      · refine lv_iconst (v := 0) hx hb dX1_worth_76 (by decide) ?_
        refine lv_goto (tgt := 87) hx hb dX1_worth_77 (by decide) ?_
        exact re_S hx hb hr hlocks (rfl) dX1_worth_87 (by unfold wor; rw [hz35]; simp only [show ¬ ((1 : Int32) = 0) by decide, if_false, if_true]; first | rw [if_pos (Int32.not_le.mp c73)] | rw [if_neg (Int32.not_lt.mpr c73)])
    · refine lv_tableIn (off := 53) (tgt := 88) hx hb dX1_worth_35 (by omega) (by omega) (by rw [hz35]; rfl) (by decide) ?_
      have hz35 : (f (a * 11 + 4)) = 2 := Int32.toInt_inj.mp (hz35.trans rfl)
      refine lv_iconst (v := 0) hx hb dX1_worth_88 (by decide) ?_
      refine lv_iload_n hx hb dX1_worth_89 rfl (lv_at hl 2 rfl) ?_
      refine lv_iload hx hb dX1_worth_90 (lv_at hl 1 rfl) ?_
      refine lv_iload hx hb dX1_worth_92 (lv_at hl 0 rfl) ?_
      refine lv_imul hx hb dX1_worth_94 ?_
      refine lv_isub hx hb dX1_worth_95 ?_
      refine va_mmax hx hb (hml.trans hl.1.symm) hown (hts _ tw_324) (hts _ tw_325) (hts _ tw_13) (hts _ tw_326) (Nat.le_of_ble_eq_true rfl) (Nat.le_of_ble_eq_true rfl) (Nat.zero_le _) (Nat.zero_le _) dX1_worth_96 ?_
      exact re_S hx hb hr hlocks (rfl) dX1_worth_99 (by unfold wor; rw [hz35]; first | rfl | simp [])
    · refine lv_tableIn (off := 72) (tgt := 107) hx hb dX1_worth_35 (by omega) (by omega) (by rw [hz35]; rfl) (by decide) ?_
      have hz35 : (f (a * 11 + 4)) = 3 := Int32.toInt_inj.mp (hz35.trans rfl)
      refine lv_iconst (v := 0) hx hb dX1_worth_107 (by decide) ?_
      exact re_S hx hb hr hlocks (rfl) dX1_worth_108 (by rw [wor, hz35, if_neg (by decide), if_neg (by decide), if_neg (by decide), if_neg (by decide)])
    · refine lv_tableIn (off := 65) (tgt := 100) hx hb dX1_worth_35 (by omega) (by omega) (by rw [hz35]; rfl) (by decide) ?_
      have hz35 : (f (a * 11 + 4)) = 4 := Int32.toInt_inj.mp (hz35.trans rfl)
      refine lv_iload_n hx hb dX1_worth_100 rfl (lv_at hl 2 rfl) ?_
      refine lv_iload hx hb dX1_worth_101 (lv_at hl 0 rfl) ?_
      refine va_mmin hx hb (hml.trans hl.1.symm) hown (hts _ tw_327) (hts _ tw_328) (hts _ tw_13) (hts _ tw_329) (Nat.le_of_ble_eq_true rfl) (Nat.le_of_ble_eq_true rfl) (Nat.zero_le _) (Nat.zero_le _) dX1_worth_103 ?_
      exact re_S hx hb hr hlocks (rfl) dX1_worth_106 (by unfold wor; rw [hz35]; first | rfl | simp [])
set_option maxHeartbeats 4000000 in
set_option maxRecDepth 100000 in
theorem k_X1_total (l : Launch) {G : GT} {c : Nat → va_E} {k j n : Nat} {f : Nat → Int32} (hk : k < 45) (hj : j < 45) (h1 : c k = .inr (0, [.ref (gad G j), .int (nI n)])) (h2 : c j = .inl (gI G, 132, .inl f)) (hn : n ≤ 12) {p0 : Nat} {d : Int32} (hp0 : p0 < 25600000) : Met l yX1_total (wv yX1_total cX1_total 6 (some .int)) ({ frames := 3, cells := 0, slots := 0, locals := 71 } : Room) (va_Pc [.ref (gad G k), .int (nI p0), .int d] (fun U => Hw G c U U.heap)) (vp_Si (fun r => r = ocm f n p0 d)) 0 0 (fun _ => False) := by
  refine en (by decide +kernel) (by first | exact Nat.le_of_ble_eq_true rfl | decide) ?_
  intro p e s m below meth cd ls hx hb hr hml hown hts hlocks hnm hw hl
  have hl : lv_has ls 6 [(0, .ref (gad G k)), (1, .int (nI p0)), (2, .int d)] := hl
  refine lv_aload_n hx hb dX1_total_0 rfl (lv_at hl 0 rfl) ?_
  refine lv_aload_n hx hb dX1_total_1 rfl (lv_at hl 0 rfl) ?_
  refine lv_iload_n hx hb dX1_total_2 rfl (lv_at hl 1 rfl) ?_
  refine lv_iload_n hx hb dX1_total_3 rfl (lv_at hl 2 rfl) ?_
  refine cSe (rV (As := [_, _]) ⟨hx, hb, hml, hown, hts⟩ hw (k_X1_holding l hk hj h1 h2 hn hp0) (cv_X1_holding hts tw_291 rfl rfl ⟨Nat.le_of_ble_eq_true rfl, Nat.le_of_ble_eq_true rfl⟩) hk h1 rfl rfl hl.1 rfl (by first | exact Nat.le_of_ble_eq_true rfl | decide) dX1_total_4 ⟨Nat.zero_le _, Nat.zero_le _⟩) ?_
  refine cSe (rV (As := [_]) ⟨hx, hb, hml, hown, hts⟩ hw (k_X1_counting l hk hj h1 h2 hn) (cv_X1_counting hts tw_309 rfl rfl ⟨Nat.le_of_ble_eq_true rfl, Nat.le_of_ble_eq_true rfl⟩) hk h1 rfl rfl hl.1 rfl (by first | exact Nat.le_of_ble_eq_true rfl | decide) dX1_total_7 ⟨Nat.zero_le _, Nat.zero_le _⟩) ?_
  have hst := stD_congr (f := f) (n := n) (hp := fun c => isn (mskU (hbf f p0 d) n) (nI c)) (hq := hbf f p0 d) (fun c hc => isn_mskU (by omega) hc) n (Nat.le_refl n)
  refine lv_istore_n (lv' := [(3, _), (0, _), (1, _), (2, _)]) hx hb dX1_total_10 rfl hl (by decide) rfl (fun ls hl => ?_)
  refine lv_iconst (v := 0) hx hb dX1_total_11 (by decide) ?_
  refine lv_istore (lv' := [(4, _), (3, _), (0, _), (1, _), (2, _)]) hx hb dX1_total_12 hl (by decide) rfl (fun ls hl => ?_)
  refine lv_iconst (v := 0) hx hb dX1_total_14 (by decide) ?_
  refine lv_istore (lv' := [(5, _), (4, _), (3, _), (0, _), (1, _), (2, _)]) hx hb dX1_total_15 hl (by decide) rfl (fun ls hl => ?_)
  have L17 : ∀ (N : Nat) (i : Nat) (x : Int32), (i + N = n) → (x = sumU (cnb f (mskU (hbf f p0 d) n) (stD f (hbf f p0 d) n n).1) (wor f p0) i) → ∀ ls : Array Slot, lv_has ls 6 [(5, .int (nI i)), (4, .int x), (3, .int (mskU (cnb f (mskU (hbf f p0 d) n) (stD f (fun c => isn (mskU (hbf f p0 d) n) (nI c)) n n).1) n)), (2, .int d), (1, .int (nI p0)), (0, .ref (gad G k))] → W p l e ({ frames := 3, cells := 0, slots := 0, locals := 71 } : Room) s m (([.ref (gad G k), .int (nI p0), .int d] : List Value).toArray) below meth cd s.heap [] 0 0 (MQ below (vp_Si (fun r => r = ocm f n p0 d)) ([.ref (gad G k), .int (nI p0), .int d] : List Value).toArray s 0 0 (fun _ => False)) (F0 m 17 ls []) := by
    intro N
    induction N with
    | zero =>
      intro i  x  hN hA ls hl
      obtain rfl : i = n := by omega
      refine lv_iload hx hb dX1_total_17 (lv_at hl 0 rfl) ?_
      refine lv_aload_n hx hb dX1_total_19 rfl (lv_at hl 5 rfl) ?_
      refine w_get (C := RX1) (T := TX1) (N := 2) 1 hx hb hts inX1 hown hw hk h1 rfl (by decide) (hts _ tw_37) rfl dX1_total_20 ?_
      refine lv_icmp_ge (tgt := 53) hx hb dX1_total_23 (by decide) (fun c23 => ?_) (fun q => absurd (Int32.le_refl _) q)
      refine lv_iload hx hb dX1_total_53 (lv_at hl 1 rfl) ?_
      exact re_S hx hb hr hlocks (rfl) dX1_total_55 (hA)
    | succ N ih =>
      intro i  x  hN hA ls hl
      refine lv_iload hx hb dX1_total_17 (lv_at hl 0 rfl) ?_
      refine lv_aload_n hx hb dX1_total_19 rfl (lv_at hl 5 rfl) ?_
      refine w_get (C := RX1) (T := TX1) (N := 2) 1 hx hb hts inX1 hown hw hk h1 rfl (by decide) (hts _ tw_37) rfl dX1_total_20 ?_
      refine lv_icmp_ge (tgt := 53) hx hb dX1_total_23 (by decide) (fun q => absurd q (nI_ge (by omega) (by omega))) (fun c23 => ?_)
      refine lv_iload_n hx hb dX1_total_26 rfl (lv_at hl 2 rfl) ?_
      refine lv_iload hx hb dX1_total_27 (lv_at hl 0 rfl) ?_
      have hbt := isn_mskU (P := cnb f (mskU (hbf f p0 d) n) (stD f (fun c => isn (mskU (hbf f p0 d) n) (nI c)) n n).1) (n := n) (c := i) (by omega) (by omega)
      refine cSe (rST (As := [_, _]) ⟨hx, hb, hml, hown, hts⟩ (k_X1_isIn l ) (cv_X1_isIn hts tw_317 rfl rfl ⟨Nat.le_of_ble_eq_true rfl, Nat.le_of_ble_eq_true rfl⟩) rfl hl.1 rfl (by first | exact Nat.le_of_ble_eq_true rfl | decide) dX1_total_29 ⟨Nat.zero_le _, Nat.zero_le _⟩) ?_
      refine zb_eq (tgt := 47) hx hb dX1_total_32 (by decide) (fun c32 => ?_) (fun c32 => ?_)
      · refine lv_iinc (v := nI (i + 1)) (lv' := [(5, _), (4, _), (3, _), (2, _), (1, _), (0, _)]) hx hb dX1_total_47 hl (k := 0) rfl (inc1 i) (by decide) rfl (fun ls hl => ?_)
        refine lv_goto (tgt := 17) hx hb dX1_total_50 (by decide) ?_
        exact ih (i + 1) _ (by omega) (by rw [sumU, hA]; rw [hbt, hst] at c32; simp [c32]) ls (lv_sub hl [0, 1, 2, 3, 4, 5] rfl)
      · refine lv_iload hx hb dX1_total_35 (lv_at hl 1 rfl) ?_
        refine lv_aload_n hx hb dX1_total_37 rfl (lv_at hl 5 rfl) ?_
        refine lv_iload hx hb dX1_total_38 (lv_at hl 0 rfl) ?_
        refine lv_iload_n hx hb dX1_total_40 rfl (lv_at hl 4 rfl) ?_
        refine cSe (rV (As := [_, _]) ⟨hx, hb, hml, hown, hts⟩ hw (k_X1_worth l hk hj h1 h2 hn (by omega) hp0) (cv_X1_worth hts tw_320 rfl rfl ⟨Nat.le_of_ble_eq_true rfl, Nat.le_of_ble_eq_true rfl⟩) hk h1 rfl rfl hl.1 rfl (by first | exact Nat.le_of_ble_eq_true rfl | decide) dX1_total_41 ⟨Nat.zero_le _, Nat.zero_le _⟩) ?_
        refine lv_iadd hx hb dX1_total_44 ?_
        refine lv_istore (lv' := [(4, _), (5, _), (3, _), (2, _), (1, _), (0, _)]) hx hb dX1_total_45 hl (by decide) rfl (fun ls hl => ?_)
        refine lv_iinc (v := nI (i + 1)) (lv' := [(5, _), (4, _), (3, _), (2, _), (1, _), (0, _)]) hx hb dX1_total_47 hl (k := 1) rfl (inc1 i) (by decide) rfl (fun ls hl => ?_)
        refine lv_goto (tgt := 17) hx hb dX1_total_50 (by decide) ?_
        exact ih (i + 1) _ (by omega) (by rw [sumU, hA]; rw [hbt, hst] at c32; simp [c32]) ls (lv_sub hl [0, 1, 2, 3, 4, 5] rfl)
  exact L17 n 0 0 (by omega) rfl ls (lv_sub hl [0, 1, 2, 5, 4, 3] rfl)
set_option maxHeartbeats 4000000 in
set_option maxRecDepth 100000 in
theorem k_X1_whyNot (l : Launch) {G : GT} {c : Nat → va_E} {k j n : Nat} {f : Nat → Int32} (hk : k < 45) (hj : j < 45) (h1 : c k = .inr (0, [.ref (gad G j), .int (nI n)])) (h2 : c j = .inl (gI G, 132, .inl f)) (hn : n ≤ 12) {a : Nat} {d h : Int32} (ha : a < n) : Met l yX1_whyNot (wv yX1_whyNot cX1_whyNot 4 (some .int)) ({ frames := 3, cells := 0, slots := 0, locals := 71 } : Room) (va_Pc [.ref (gad G k), .int (nI a), .int d, .int h] (fun U => Hw G c U U.heap)) (vp_Si (fun r => r = if spn f d a = false then 1 else if isn h (nI a) = false then 2 else if isn (stD f (fun c => isn h (nI c)) n n).1 (nI a) = false then 3 else if isn (mskU (cnb f h (stD f (fun c => isn h (nI c)) n n).1) n) (nI a) = true then 0 else 4)) 0 0 (fun _ => False) := by
  refine en (by decide +kernel) (by first | exact Nat.le_of_ble_eq_true rfl | decide) ?_
  intro p e s m below meth cd ls hx hb hr hml hown hts hlocks hnm hw hl
  have hl : lv_has ls 4 [(0, .ref (gad G k)), (1, .int (nI a)), (2, .int d), (3, .int h)] := hl
  refine lv_aload_n hx hb dX1_whyNot_0 rfl (lv_at hl 0 rfl) ?_
  refine lv_iload_n hx hb dX1_whyNot_1 rfl (lv_at hl 1 rfl) ?_
  refine lv_iload_n hx hb dX1_whyNot_2 rfl (lv_at hl 2 rfl) ?_
  refine cSe (rV (As := [_, _]) ⟨hx, hb, hml, hown, hts⟩ hw (k_X1_spanHas l hk hj h1 h2 hn ha) (cv_X1_spanHas hts tw_295 rfl rfl ⟨Nat.le_of_ble_eq_true rfl, Nat.le_of_ble_eq_true rfl⟩) hk h1 rfl rfl hl.1 rfl (by first | exact Nat.le_of_ble_eq_true rfl | decide) dX1_whyNot_3 ⟨Nat.zero_le _, Nat.zero_le _⟩) ?_
  refine zb_ne (tgt := 11) hx hb dX1_whyNot_6 (by decide) (fun c6 => ?_) (fun c6 => ?_)
  · refine lv_iload_n hx hb dX1_whyNot_11 rfl (lv_at hl 3 rfl) ?_
    refine lv_iload_n hx hb dX1_whyNot_12 rfl (lv_at hl 1 rfl) ?_
    refine cSe (rST (As := [_, _]) ⟨hx, hb, hml, hown, hts⟩ (k_X1_isIn l ) (cv_X1_isIn hts tw_317 rfl rfl ⟨Nat.le_of_ble_eq_true rfl, Nat.le_of_ble_eq_true rfl⟩) rfl hl.1 rfl (by first | exact Nat.le_of_ble_eq_true rfl | decide) dX1_whyNot_13 ⟨Nat.zero_le _, Nat.zero_le _⟩) ?_
    refine zb_ne (tgt := 21) hx hb dX1_whyNot_16 (by decide) (fun c16 => ?_) (fun c16 => ?_)
    · refine lv_aload_n hx hb dX1_whyNot_21 rfl (lv_at hl 0 rfl) ?_
      refine lv_iload_n hx hb dX1_whyNot_22 rfl (lv_at hl 3 rfl) ?_
      refine cSe (rV (As := [_]) ⟨hx, hb, hml, hown, hts⟩ hw (k_X1_standing l hk hj h1 h2 hn) (cv_X1_standing hts tw_313 rfl rfl ⟨Nat.le_of_ble_eq_true rfl, Nat.le_of_ble_eq_true rfl⟩) hk h1 rfl rfl hl.1 rfl (by first | exact Nat.le_of_ble_eq_true rfl | decide) dX1_whyNot_23 ⟨Nat.zero_le _, Nat.zero_le _⟩) ?_
      refine lv_iload_n hx hb dX1_whyNot_26 rfl (lv_at hl 1 rfl) ?_
      refine cSe (rST (As := [_, _]) ⟨hx, hb, hml, hown, hts⟩ (k_X1_isIn l ) (cv_X1_isIn hts tw_317 rfl rfl ⟨Nat.le_of_ble_eq_true rfl, Nat.le_of_ble_eq_true rfl⟩) rfl hl.1 rfl (by first | exact Nat.le_of_ble_eq_true rfl | decide) dX1_whyNot_27 ⟨Nat.zero_le _, Nat.zero_le _⟩) ?_
      refine zb_ne (tgt := 35) hx hb dX1_whyNot_30 (by decide) (fun c30 => ?_) (fun c30 => ?_)
      · refine lv_aload_n hx hb dX1_whyNot_35 rfl (lv_at hl 0 rfl) ?_
        refine lv_iload_n hx hb dX1_whyNot_36 rfl (lv_at hl 3 rfl) ?_
        refine cSe (rV (As := [_]) ⟨hx, hb, hml, hown, hts⟩ hw (k_X1_counting l hk hj h1 h2 hn) (cv_X1_counting hts tw_309 rfl rfl ⟨Nat.le_of_ble_eq_true rfl, Nat.le_of_ble_eq_true rfl⟩) hk h1 rfl rfl hl.1 rfl (by first | exact Nat.le_of_ble_eq_true rfl | decide) dX1_whyNot_37 ⟨Nat.zero_le _, Nat.zero_le _⟩) ?_
        refine lv_iload_n hx hb dX1_whyNot_40 rfl (lv_at hl 1 rfl) ?_
        refine cSe (rST (As := [_, _]) ⟨hx, hb, hml, hown, hts⟩ (k_X1_isIn l ) (cv_X1_isIn hts tw_317 rfl rfl ⟨Nat.le_of_ble_eq_true rfl, Nat.le_of_ble_eq_true rfl⟩) rfl hl.1 rfl (by first | exact Nat.le_of_ble_eq_true rfl | decide) dX1_whyNot_41 ⟨Nat.zero_le _, Nat.zero_le _⟩) ?_
        refine zb_eq (tgt := 51) hx hb dX1_whyNot_44 (by decide) (fun c44 => ?_) (fun c44 => ?_)
        · refine lv_iconst (v := 4) hx hb dX1_whyNot_51 (by decide) ?_
          exact re_S hx hb hr hlocks (rfl) dX1_whyNot_52 (by simp [c6, c16, c30, c44])
        · refine lv_iconst (v := 0) hx hb dX1_whyNot_47 (by decide) ?_
          refine lv_goto (tgt := 52) hx hb dX1_whyNot_48 (by decide) ?_
          exact re_S hx hb hr hlocks (rfl) dX1_whyNot_52 (by simp [c6, c16, c30, c44])
      · refine lv_iconst (v := 3) hx hb dX1_whyNot_33 (by decide) ?_
        exact re_S hx hb hr hlocks (rfl) dX1_whyNot_34 (by simp [c6, c16, c30])
    · refine lv_iconst (v := 2) hx hb dX1_whyNot_19 (by decide) ?_
      exact re_S hx hb hr hlocks (rfl) dX1_whyNot_20 (by simp [c6, c16])
  · refine lv_iconst (v := 1) hx hb dX1_whyNot_9 (by decide) ?_
    exact re_S hx hb hr hlocks (rfl) dX1_whyNot_10 (by simp [c6])
set_option maxHeartbeats 4000000 in
set_option maxRecDepth 100000 in
theorem k_X1_leastException (l : Launch) {G : GT} {c : Nat → va_E} {k j n : Nat} {f : Nat → Int32} (hk : k < 45) (hj : j < 45) (h1 : c k = .inr (0, [.ref (gad G j), .int (nI n)])) (h2 : c j = .inl (gI G, 132, .inl f)) (hn : n ≤ 12) {a : Nat} {st : Int32} (ha : a < n) : Met l yX1_leastException (wv yX1_leastException cX1_leastException 4 (some .int)) ({ frames := 1, cells := 0, slots := 0, locals := 22 } : Room) (va_Pc [.ref (gad G k), .int (nI a), .int st] (fun U => Hw G c U U.heap)) (vp_Si (fun r => r = fstU (lex f a st) n)) 0 0 (fun _ => False) := by
  refine en (by decide +kernel) (by first | exact Nat.le_of_ble_eq_true rfl | decide) ?_
  intro p e s m below meth cd ls hx hb hr hml hown hts hlocks hnm hw hl
  have hl : lv_has ls 4 [(0, .ref (gad G k)), (1, .int (nI a)), (2, .int st)] := hl
  refine lv_iload_n hx hb dX1_leastException_0 rfl (lv_at hl 1 rfl) ?_
  refine lv_iconst (v := 1) hx hb dX1_leastException_1 (by decide) ?_
  refine lv_iadd hx hb dX1_leastException_2 ?_
  refine tp (y := nI (a + 1)) (nI_1 a) ?_
  refine lv_istore_n (lv' := [(3, _), (0, _), (1, _), (2, _)]) hx hb dX1_leastException_3 rfl hl (by decide) rfl (fun ls hl => ?_)
  have L4 : ∀ (N : Nat) (i : Nat), (i + N = n) → (a < i) → (∀ q, q < i → lex f a st q = false) → ∀ ls : Array Slot, lv_has ls 4 [(3, .int (nI i)), (2, .int st), (1, .int (nI a)), (0, .ref (gad G k))] → W p l e ({ frames := 1, cells := 0, slots := 0, locals := 22 } : Room) s m (([.ref (gad G k), .int (nI a), .int st] : List Value).toArray) below meth cd s.heap [] 0 0 (MQ below (vp_Si (fun r => r = fstU (lex f a st) n)) ([.ref (gad G k), .int (nI a), .int st] : List Value).toArray s 0 0 (fun _ => False)) (F0 m 4 ls []) := by
    intro N
    induction N with
    | zero =>
      intro i  hN hi hA ls hl
      obtain rfl : i = n := by omega
      refine lv_iload_n hx hb dX1_leastException_4 rfl (lv_at hl 0 rfl) ?_
      refine lv_aload_n hx hb dX1_leastException_5 rfl (lv_at hl 3 rfl) ?_
      refine w_get (C := RX1) (T := TX1) (N := 2) 1 hx hb hts inX1 hown hw hk h1 rfl (by decide) (hts _ tw_37) rfl dX1_leastException_6 ?_
      refine lv_icmp_ge (tgt := 39) hx hb dX1_leastException_9 (by decide) (fun c9 => ?_) (fun q => absurd (Int32.le_refl _) q)
      refine lv_iconst (v := (-1)) hx hb dX1_leastException_39 (by decide) ?_
      exact re_S hx hb hr hlocks (rfl) dX1_leastException_40 ((fstU_n _ hA).symm)
    | succ N ih =>
      intro i  hN hi hA ls hl
      refine lv_iload_n hx hb dX1_leastException_4 rfl (lv_at hl 0 rfl) ?_
      refine lv_aload_n hx hb dX1_leastException_5 rfl (lv_at hl 3 rfl) ?_
      refine w_get (C := RX1) (T := TX1) (N := 2) 1 hx hb hts inX1 hown hw hk h1 rfl (by decide) (hts _ tw_37) rfl dX1_leastException_6 ?_
      refine lv_icmp_ge (tgt := 39) hx hb dX1_leastException_9 (by decide) (fun q => absurd q (nI_ge (by omega) (by omega))) (fun c9 => ?_)
      refine lv_aload_n hx hb dX1_leastException_12 rfl (lv_at hl 3 rfl) ?_
      refine lv_iload_n hx hb dX1_leastException_13 rfl (lv_at hl 0 rfl) ?_
      refine lv_bipush (v := 10) hx hb dX1_leastException_14 (by decide) ?_
      refine cSe (rV (As := [_, _]) ⟨hx, hb, hml, hown, hts⟩ hw (k_X1_at l hk hj h1 h2 hn (ix i 10) (by omega)) (cv_X1_at hts tw_299 rfl rfl ⟨Nat.le_of_ble_eq_true rfl, Nat.le_of_ble_eq_true rfl⟩) hk h1 rfl rfl hl.1 rfl (by first | exact Nat.le_of_ble_eq_true rfl | decide) dX1_leastException_16 ⟨Nat.zero_le _, Nat.zero_le _⟩) ?_
      refine lv_iload_n hx hb dX1_leastException_19 rfl (lv_at hl 2 rfl) ?_
      refine lv_icmp_ne (tgt := 33) hx hb dX1_leastException_20 (by decide) (fun c20 => ?_) (fun c20 => ?_)
      · refine lv_iinc (v := nI (i + 1)) (lv' := [(3, _), (2, _), (1, _), (0, _)]) hx hb dX1_leastException_33 hl (k := 0) rfl (inc1 i) (by decide) rfl (fun ls hl => ?_)
        refine lv_goto (tgt := 4) hx hb dX1_leastException_36 (by decide) ?_
        exact ih (i + 1) (by omega) (by omega) (lt_s hA (by simp [lex, c20])) ls (lv_sub hl [0, 1, 2, 3] rfl)
      · refine lv_iload_n hx hb dX1_leastException_23 rfl (lv_at hl 1 rfl) ?_
        refine lv_iload_n hx hb dX1_leastException_24 rfl (lv_at hl 0 rfl) ?_
        refine cSe (rST (As := [_, _]) ⟨hx, hb, hml, hown, hts⟩ (k_X1_isIn l ) (cv_X1_isIn hts tw_317 rfl rfl ⟨Nat.le_of_ble_eq_true rfl, Nat.le_of_ble_eq_true rfl⟩) rfl hl.1 rfl (by first | exact Nat.le_of_ble_eq_true rfl | decide) dX1_leastException_25 ⟨Nat.zero_le _, Nat.zero_le _⟩) ?_
        refine zb_eq (tgt := 33) hx hb dX1_leastException_28 (by decide) (fun c28 => ?_) (fun c28 => ?_)
        · refine lv_iinc (v := nI (i + 1)) (lv' := [(3, _), (2, _), (1, _), (0, _)]) hx hb dX1_leastException_33 hl (k := 0) rfl (inc1 i) (by decide) rfl (fun ls hl => ?_)
          refine lv_goto (tgt := 4) hx hb dX1_leastException_36 (by decide) ?_
          exact ih (i + 1) (by omega) (by omega) (lt_s hA (by simp [lex, c20, c28])) ls (lv_sub hl [0, 1, 2, 3] rfl)
        · refine lv_iload_n hx hb dX1_leastException_31 rfl (lv_at hl 0 rfl) ?_
          exact re_S hx hb hr hlocks (rfl) dX1_leastException_32 (by rw [fstU_s (by omega) hA (by simp [lex, c28]; exact ⟨by omega, by simpa using c20⟩) n (by omega)])
  exact L4 (n - (a + 1)) (a + 1) (by omega) (by omega) (by intro q hq; simp [lex]; intro z; omega) ls (lv_sub hl [0, 3, 2, 1] rfl)
set_option maxHeartbeats 4000000 in
set_option maxRecDepth 100000 in
theorem k_X1_nextEdge (l : Launch) {G : GT} {c : Nat → va_E} {k j n : Nat} {f : Nat → Int32} (hk : k < 45) (hj : j < 45) (h1 : c k = .inr (0, [.ref (gad G j), .int (nI n)])) (h2 : c j = .inl (gI G, 132, .inl f)) (hn : n ≤ 12) {d : Int32} : Met l yX1_nextEdge (wv yX1_nextEdge cX1_nextEdge 6 (some .int)) ({ frames := 1, cells := 0, slots := 0, locals := 22 } : Room) (va_Pc [.ref (gad G k), .int d] (fun U => Hw G c U U.heap)) (vp_Si (fun r => r = nxe f d n)) 0 0 (fun _ => False) := by
  refine en (by decide +kernel) (by first | exact Nat.le_of_ble_eq_true rfl | decide) ?_
  intro p e s m below meth cd ls hx hb hr hml hown hts hlocks hnm hw hl
  have hl : lv_has ls 6 [(0, .ref (gad G k)), (1, .int d)] := hl
  refine lv_sipush (v := 1000) hx hb dX1_nextEdge_0 (by decide) ?_
  refine lv_istore_n (lv' := [(2, _), (0, _), (1, _)]) hx hb dX1_nextEdge_3 rfl hl (by decide) rfl (fun ls hl => ?_)
  refine lv_iconst (v := 0) hx hb dX1_nextEdge_4 (by decide) ?_
  refine lv_istore_n (lv' := [(3, _), (2, _), (0, _), (1, _)]) hx hb dX1_nextEdge_5 rfl hl (by decide) rfl (fun ls hl => ?_)
  have L6 : ∀ (N : Nat) (i : Nat) (x : Int32), (i + N = n) → (x = nxe f d i) → ∀ ls : Array Slot, lv_has ls 6 [(3, .int (nI i)), (2, .int x), (1, .int d), (0, .ref (gad G k))] → W p l e ({ frames := 1, cells := 0, slots := 0, locals := 22 } : Room) s m (([.ref (gad G k), .int d] : List Value).toArray) below meth cd s.heap [] 0 0 (MQ below (vp_Si (fun r => r = nxe f d n)) ([.ref (gad G k), .int d] : List Value).toArray s 0 0 (fun _ => False)) (F0 m 6 ls []) := by
    intro N
    induction N with
    | zero =>
      intro i  x  hN hA ls hl
      obtain rfl : i = n := by omega
      refine lv_iload_n hx hb dX1_nextEdge_6 rfl (lv_at hl 0 rfl) ?_
      refine lv_aload_n hx hb dX1_nextEdge_7 rfl (lv_at hl 3 rfl) ?_
      refine w_get (C := RX1) (T := TX1) (N := 2) 1 hx hb hts inX1 hown hw hk h1 rfl (by decide) (hts _ tw_37) rfl dX1_nextEdge_8 ?_
      refine lv_icmp_ge (tgt := 66) hx hb dX1_nextEdge_11 (by decide) (fun c11 => ?_) (fun q => absurd (Int32.le_refl _) q)
      refine lv_iload_n hx hb dX1_nextEdge_66 rfl (lv_at hl 1 rfl) ?_
      exact re_S hx hb hr hlocks (rfl) dX1_nextEdge_67 (hA)
    | succ N ih =>
      intro i  x  hN hA ls hl
      refine lv_iload_n hx hb dX1_nextEdge_6 rfl (lv_at hl 0 rfl) ?_
      refine lv_aload_n hx hb dX1_nextEdge_7 rfl (lv_at hl 3 rfl) ?_
      refine w_get (C := RX1) (T := TX1) (N := 2) 1 hx hb hts inX1 hown hw hk h1 rfl (by decide) (hts _ tw_37) rfl dX1_nextEdge_8 ?_
      refine lv_icmp_ge (tgt := 66) hx hb dX1_nextEdge_11 (by decide) (fun q => absurd q (nI_ge (by omega) (by omega))) (fun c11 => ?_)
      refine lv_aload_n hx hb dX1_nextEdge_14 rfl (lv_at hl 3 rfl) ?_
      refine lv_iload_n hx hb dX1_nextEdge_15 rfl (lv_at hl 0 rfl) ?_
      refine lv_bipush (v := 8) hx hb dX1_nextEdge_16 (by decide) ?_
      refine cSe (rV (As := [_, _]) ⟨hx, hb, hml, hown, hts⟩ hw (k_X1_at l hk hj h1 h2 hn (ix i 8) (by omega)) (cv_X1_at hts tw_299 rfl rfl ⟨Nat.le_of_ble_eq_true rfl, Nat.le_of_ble_eq_true rfl⟩) hk h1 rfl rfl hl.1 rfl (by first | exact Nat.le_of_ble_eq_true rfl | decide) dX1_nextEdge_18 ⟨Nat.zero_le _, Nat.zero_le _⟩) ?_
      refine lv_istore (lv' := [(4, _), (3, _), (2, _), (1, _), (0, _)]) hx hb dX1_nextEdge_21 hl (by decide) rfl (fun ls hl => ?_)
      refine lv_aload_n hx hb dX1_nextEdge_23 rfl (lv_at hl 4 rfl) ?_
      refine lv_iload_n hx hb dX1_nextEdge_24 rfl (lv_at hl 1 rfl) ?_
      refine lv_bipush (v := 9) hx hb dX1_nextEdge_25 (by decide) ?_
      refine cSe (rV (As := [_, _]) ⟨hx, hb, hml, hown, hts⟩ hw (k_X1_at l hk hj h1 h2 hn (ix i 9) (by omega)) (cv_X1_at hts tw_299 rfl rfl ⟨Nat.le_of_ble_eq_true rfl, Nat.le_of_ble_eq_true rfl⟩) hk h1 rfl rfl hl.1 rfl (by first | exact Nat.le_of_ble_eq_true rfl | decide) dX1_nextEdge_27 ⟨Nat.zero_le _, Nat.zero_le _⟩) ?_
      refine lv_iconst (v := 1) hx hb dX1_nextEdge_30 (by decide) ?_
      refine lv_iadd hx hb dX1_nextEdge_31 ?_
      refine lv_istore (lv' := [(5, _), (4, _), (3, _), (2, _), (1, _), (0, _)]) hx hb dX1_nextEdge_32 hl (by decide) rfl (fun ls hl => ?_)
      refine lv_iload hx hb dX1_nextEdge_34 (lv_at hl 1 rfl) ?_
      refine lv_iload_n hx hb dX1_nextEdge_36 rfl (lv_at hl 4 rfl) ?_
      refine lv_icmp_le (tgt := 47) hx hb dX1_nextEdge_37 (by decide) (fun c37 => ?_) (fun c37 => ?_)
      · refine lv_iload hx hb dX1_nextEdge_47 (lv_at hl 0 rfl) ?_
        refine lv_iload_n hx hb dX1_nextEdge_49 rfl (lv_at hl 4 rfl) ?_
        refine lv_icmp_le (tgt := 60) hx hb dX1_nextEdge_50 (by decide) (fun c50 => ?_) (fun c50 => ?_)
        · refine lv_iinc (v := nI (i + 1)) (lv' := [(3, _), (5, _), (4, _), (2, _), (1, _), (0, _)]) hx hb dX1_nextEdge_60 hl (k := 2) rfl (inc1 i) (by decide) rfl (fun ls hl => ?_)
          refine lv_goto (tgt := 6) hx hb dX1_nextEdge_63 (by decide) ?_
          exact ih (i + 1) _ (by omega) (by rw [nxe, ← hA]; (first | rw [if_pos (Int32.not_le.mp c37)] | rw [if_neg (Int32.not_lt.mpr c37)]); (first | rw [if_pos (Int32.not_le.mp c50)] | rw [if_neg (Int32.not_lt.mpr c50)]); try rfl) ls (lv_sub hl [0, 3, 4, 5] rfl)
        · refine lv_iload_n hx hb dX1_nextEdge_53 rfl (lv_at hl 3 rfl) ?_
          refine lv_iload hx hb dX1_nextEdge_54 (lv_at hl 0 rfl) ?_
          refine va_mmin hx hb (hml.trans hl.1.symm) hown (hts _ tw_327) (hts _ tw_328) (hts _ tw_13) (hts _ tw_329) (Nat.le_of_ble_eq_true rfl) (Nat.le_of_ble_eq_true rfl) (Nat.zero_le _) (Nat.zero_le _) dX1_nextEdge_56 ?_
          refine lv_istore_n (lv' := [(2, _), (5, _), (4, _), (3, _), (1, _), (0, _)]) hx hb dX1_nextEdge_59 rfl hl (by decide) rfl (fun ls hl => ?_)
          refine lv_iinc (v := nI (i + 1)) (lv' := [(3, _), (2, _), (5, _), (4, _), (1, _), (0, _)]) hx hb dX1_nextEdge_60 hl (k := 3) rfl (inc1 i) (by decide) rfl (fun ls hl => ?_)
          refine lv_goto (tgt := 6) hx hb dX1_nextEdge_63 (by decide) ?_
          exact ih (i + 1) _ (by omega) (by rw [nxe, ← hA]; (first | rw [if_pos (Int32.not_le.mp c37)] | rw [if_neg (Int32.not_lt.mpr c37)]); (first | rw [if_pos (Int32.not_le.mp c50)] | rw [if_neg (Int32.not_lt.mpr c50)]); try rfl) ls (lv_sub hl [0, 1, 4, 5] rfl)
      · refine lv_iload_n hx hb dX1_nextEdge_40 rfl (lv_at hl 3 rfl) ?_
        refine lv_iload hx hb dX1_nextEdge_41 (lv_at hl 1 rfl) ?_
        refine va_mmin hx hb (hml.trans hl.1.symm) hown (hts _ tw_327) (hts _ tw_328) (hts _ tw_13) (hts _ tw_329) (Nat.le_of_ble_eq_true rfl) (Nat.le_of_ble_eq_true rfl) (Nat.zero_le _) (Nat.zero_le _) dX1_nextEdge_43 ?_
        refine lv_istore_n (lv' := [(2, _), (5, _), (4, _), (3, _), (1, _), (0, _)]) hx hb dX1_nextEdge_46 rfl hl (by decide) rfl (fun ls hl => ?_)
        refine lv_iload hx hb dX1_nextEdge_47 (lv_at hl 1 rfl) ?_
        refine lv_iload_n hx hb dX1_nextEdge_49 rfl (lv_at hl 4 rfl) ?_
        refine lv_icmp_le (tgt := 60) hx hb dX1_nextEdge_50 (by decide) (fun c50 => ?_) (fun c50 => ?_)
        · refine lv_iinc (v := nI (i + 1)) (lv' := [(3, _), (2, _), (5, _), (4, _), (1, _), (0, _)]) hx hb dX1_nextEdge_60 hl (k := 3) rfl (inc1 i) (by decide) rfl (fun ls hl => ?_)
          refine lv_goto (tgt := 6) hx hb dX1_nextEdge_63 (by decide) ?_
          exact ih (i + 1) _ (by omega) (by rw [nxe, ← hA]; (first | rw [if_pos (Int32.not_le.mp c37)] | rw [if_neg (Int32.not_lt.mpr c37)]); (first | rw [if_pos (Int32.not_le.mp c50)] | rw [if_neg (Int32.not_lt.mpr c50)]); try rfl) ls (lv_sub hl [0, 1, 4, 5] rfl)
        · refine lv_iload_n hx hb dX1_nextEdge_53 rfl (lv_at hl 0 rfl) ?_
          refine lv_iload hx hb dX1_nextEdge_54 (lv_at hl 1 rfl) ?_
          refine va_mmin hx hb (hml.trans hl.1.symm) hown (hts _ tw_327) (hts _ tw_328) (hts _ tw_13) (hts _ tw_329) (Nat.le_of_ble_eq_true rfl) (Nat.le_of_ble_eq_true rfl) (Nat.zero_le _) (Nat.zero_le _) dX1_nextEdge_56 ?_
          refine lv_istore_n (lv' := [(2, _), (5, _), (4, _), (3, _), (1, _), (0, _)]) hx hb dX1_nextEdge_59 rfl hl (by decide) rfl (fun ls hl => ?_)
          refine lv_iinc (v := nI (i + 1)) (lv' := [(3, _), (2, _), (5, _), (4, _), (1, _), (0, _)]) hx hb dX1_nextEdge_60 hl (k := 3) rfl (inc1 i) (by decide) rfl (fun ls hl => ?_)
          refine lv_goto (tgt := 6) hx hb dX1_nextEdge_63 (by decide) ?_
          exact ih (i + 1) _ (by omega) (by rw [nxe, ← hA]; (first | rw [if_pos (Int32.not_le.mp c37)] | rw [if_neg (Int32.not_lt.mpr c37)]); (first | rw [if_pos (Int32.not_le.mp c50)] | rw [if_neg (Int32.not_lt.mpr c50)]); try rfl) ls (lv_sub hl [0, 1, 4, 5] rfl)
  exact L6 n 0 1000 (by omega) rfl ls (lv_sub hl [0, 1, 3, 2] rfl)
