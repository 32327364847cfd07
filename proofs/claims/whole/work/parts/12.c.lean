/-! READING: the tokens by their kinds K and values V -/
def D2 (i j : Nat) (c : Nat → va_E) (x y : va_E) : Nat → va_E := va_up (va_up c i x) j y
theorem D2_j {i j : Nat} {c : Nat → va_E} {x y : va_E} : D2 i j c x y j = y := vu_s
theorem D2_i {i j : Nat} {c : Nat → va_E} {x y : va_E} (h : i ≠ j) : D2 i j c x y i = x := vu_e h vu_s
theorem D2_o {i j k : Nat} {c : Nat → va_E} {x y z : va_E} (h1 : k ≠ i) (h2 : k ≠ j) (h : c k = z) : D2 i j c x y k = z := vu_e h2 (vu_e h1 h)
theorem D2_id {i j : Nat} {c : Nat → va_E} {x y : va_E} (h1 : c i = x) (h2 : c j = y) : c = D2 i j c x y := by
  rw [D2, up_id h1, up_id h2]
theorem D2_pi {i j : Nat} {c : Nat → va_E} {x y z : va_E} (h : i ≠ j) : va_up (D2 i j c x y) i z = D2 i j c z y := by
  funext k
  unfold D2 va_up
  repeat' split
  all_goals first | rfl | omega
theorem D2_pj {i j : Nat} {c : Nat → va_E} {x y z : va_E} : va_up (D2 i j c x y) j z = D2 i j c x z := up_up _ _ _ _
theorem D2_D2 {i j : Nat} {c : Nat → va_E} {x y z w : va_E} (h : i ≠ j) : D2 i j (D2 i j c x y) z w = D2 i j c z w := by
  show va_up (va_up (D2 i j c x y) i z) j w = _
  rw [D2_pi h, D2_pj]
theorem D2_bi {i j : Nat} {c : Nat → va_E} {x y z : va_E} : D2 i j (va_up c i z) x y = D2 i j c x y := by
  show va_up (va_up (va_up c i z) i x) j y = _
  rw [up_up]; rfl
theorem D2_bj {i j : Nat} {c : Nat → va_E} {x y z : va_E} (h : i ≠ j) : D2 i j (va_up c j z) x y = D2 i j c x y := by
  funext k
  unfold D2 va_up
  repeat' split
  all_goals first | rfl | omega
theorem r1p {c : Nat → va_E} {x y z : va_E} : va_up (D2 2 11 c x y) 2 z = D2 2 11 c z y := D2_pi (by decide)
theorem r2p {c : Nat → va_E} {x y z : va_E} : va_up (D2 2 11 c x y) 11 z = D2 2 11 c x z := D2_pj
theorem r3p {c : Nat → va_E} {x y z w : va_E} : D2 2 11 (D2 2 11 c x y) z w = D2 2 11 c z w := D2_D2 (by decide)
theorem r4p {c : Nat → va_E} {x y z : va_E} : D2 2 11 (va_up c 2 z) x y = D2 2 11 c x y := D2_bi
theorem r5p {c : Nat → va_E} {x y z : va_E} : D2 2 11 (va_up c 11 z) x y = D2 2 11 c x y := D2_bj (by decide)
abbrev PS : Type := Bool × Nat × (Nat → Int32)
def isW (K V : Nat → Int32) (k : Nat) (a b : Int32) : Bool := decide (K k = 1) && wn (V k) a b
def tW (K V : Nat → Int32) (w : Int32) (k : Nat) (f : Nat → Int32) : PS := if isW K V k w w = true then (true, k + 1, f) else (false, k, f)
def tN (K V : Nat → Int32) (a : Nat) (lo hi : Int32) (k : Nat) (f : Nat → Int32) : PS := if (decide (K k = 2) && wn (V k) lo hi) = true then (true, k + 1, upd f a (V k)) else (false, k, f)
def tTr (K V : Nat → Int32) (a : Nat) (k : Nat) (f : Nat → Int32) : PS := if isW K V k 0 3 = true then (true, k + 1, upd f a (V k)) else (false, k, f)
def bnd (r : PS) (g : Nat → (Nat → Int32) → PS) : PS := if r.1 = true then g r.2.1 r.2.2 else r
def orr (r : PS) (g h : Nat → (Nat → Int32) → PS) : PS := if r.1 = true then g r.2.1 r.2.2 else h r.2.1 r.2.2
theorem bnd_t {r : PS} {b : Bool} {k : Nat} {f : Nat → Int32} {g : Nat → (Nat → Int32) → PS} (h : r = (b, k, f)) (hb : b = true) : bnd r g = g k f := by subst h hb; rfl
theorem bnd_f {r : PS} {b : Bool} {k : Nat} {f : Nat → Int32} {g : Nat → (Nat → Int32) → PS} (h : r = (b, k, f)) (hb : b = false) : bnd r g = (false, k, f) := by subst h hb; rfl
theorem orr_t {r : PS} {b : Bool} {k : Nat} {f : Nat → Int32} {g h9 : Nat → (Nat → Int32) → PS} (h : r = (b, k, f)) (hb : b = true) : orr r g h9 = g k f := by subst h hb; rfl
theorem orr_f {r : PS} {b : Bool} {k : Nat} {f : Nat → Int32} {g h9 : Nat → (Nat → Int32) → PS} (h : r = (b, k, f)) (hb : b = false) : orr r g h9 = h9 k f := by subst h hb; rfl
def rLH (K V : Nat → Int32) (q : Nat) (how most : Int32) (k : Nat) (f : Nat → Int32) : PS := bnd (tN K V (q * 11 + 2) 0 most k (upd f (q * 11 + 0) how)) fun k f => tN K V (q * 11 + 3) 0 most k f
def rTest (K V : Nat → Int32) (q k : Nat) (f : Nat → Int32) : PS :=
  orr (tW K V 11 k f) (fun k f => (true, k, f)) fun k f => orr (tW K V 13 k f) (fun k f => rLH K V q 3 31 k f) fun k f => bnd (tTr K V (q * 11 + 1) k f) fun k f => orr (tW K V 12 k f) (fun k f => rLH K V q 2 99 k f) (fun k f => rLH K V q 1 99 k f)
def rGr (K V : Nat → Int32) (q : Nat) (s : Int32) (k : Nat) (f : Nat → Int32) : PS :=
  if s = 3 then (true, k, f) else bnd (if s = 0 then (true, k, f) else tTr K V (q * 11 + 5) k f) fun k f => bnd (tN K V (q * 11 + 6) 0 999 k f) fun k f => if s = 0 ∨ s = 4 then (true, k, f) else tN K V (q * 11 + 7) (if s = 1 then 1 else 0) 99 k f
theorem rGr_0 {K V : Nat → Int32} {q k : Nat} {f : Nat → Int32} : rGr K V q 0 k f = bnd (tN K V (q * 11 + 6) 0 999 k f) fun k f => (true, k, f) := rfl
theorem rGr_1 {K V : Nat → Int32} {q k : Nat} {f : Nat → Int32} : rGr K V q 1 k f = bnd (tTr K V (q * 11 + 5) k f) fun k f => bnd (tN K V (q * 11 + 6) 0 999 k f) fun k f => tN K V (q * 11 + 7) 1 99 k f := rfl
theorem rGr_2 {K V : Nat → Int32} {q k : Nat} {f : Nat → Int32} : rGr K V q 2 k f = bnd (tTr K V (q * 11 + 5) k f) fun k f => bnd (tN K V (q * 11 + 6) 0 999 k f) fun k f => tN K V (q * 11 + 7) 0 99 k f := rfl
theorem rGr_3 {K V : Nat → Int32} {q k : Nat} {f : Nat → Int32} : rGr K V q 3 k f = (true, k, f) := rfl
theorem rGr_4 {K V : Nat → Int32} {q k : Nat} {f : Nat → Int32} : rGr K V q 4 k f = bnd (tTr K V (q * 11 + 5) k f) fun k f => bnd (tN K V (q * 11 + 6) 0 999 k f) fun k f => (true, k, f) := rfl
def rGrant (K V : Nat → Int32) (q k : Nat) (f : Nat → Int32) : PS := if isW K V k 4 8 = true then rGr K V q (V k - 4) (k + 1) (upd f (q * 11 + 4) (V k - 4)) else (false, k, f)
def rSpan (K V : Nat → Int32) (q k : Nat) (f : Nat → Int32) : PS :=
  orr (tW K V 14 k f) (fun k f => bnd (tN K V (q * 11 + 8) 0 999 k f) fun k f => bnd (tW K V 15 k f) fun k f => tN K V (q * 11 + 9) (f (q * 11 + 8)) 999 k f) (fun k f => (true, k, f))
def rExc (K V : Nat → Int32) (q k : Nat) (f : Nat → Int32) : PS := orr (tW K V 16 k f) (fun k f => tN K V (q * 11 + 10) 0 (nI q - 1) k f) (fun k f => (true, k, f))
def rLawB (K V : Nat → Int32) (q k : Nat) (f : Nat → Int32) : PS :=
  bnd (rTest K V q k f) fun k f => bnd (tW K V 10 k f) fun k f => bnd (rGrant K V q k f) fun k f => bnd (rSpan K V q k f) fun k f => rExc K V q k f
abbrev PL : Type := Bool × Nat × (Nat → Int32) × Nat
def rLaw (K V : Nat → Int32) (n k : Nat) (f : Nat → Int32) : PL :=
  if (isW K V k 9 9 && decide (n < 12)) = true then ((rLawB K V n (k + 1) (apF f n)).1, (rLawB K V n (k + 1) (apF f n)).2.1, (rLawB K V n (k + 1) (apF f n)).2.2, n + 1) else (false, k, f, n)
def rText (K V : Nat → Int32) : Nat → Nat → Nat → (Nat → Int32) → PL
  | 0, n, k, f => (false, k, f, n)
  | N + 1, n, k, f =>
    if (rLaw K V n k f).1 = true then
      if K (rLaw K V n k f).2.1 = 0 then rLaw K V n k f
      else if K (rLaw K V n k f).2.1 = 3 then rText K V N (rLaw K V n k f).2.2.2 ((rLaw K V n k f).2.1 + 1) (rLaw K V n k f).2.2.1
      else (false, (rLaw K V n k f).2)
    else rLaw K V n k f
theorem rText_f {K V : Nat → Int32} {N n k k1 n1 : Nat} {f f1 : Nat → Int32} {b : Bool} (h : rLaw K V n k f = (b, k1, f1, n1)) (hb : b = false) : rText K V (N + 1) n k f = (false, k1, f1, n1) := by
  subst hb; rw [rText, h]; rfl
theorem rText_e {K V : Nat → Int32} {N n k k1 n1 : Nat} {f f1 : Nat → Int32} {b : Bool} (h : rLaw K V n k f = (b, k1, f1, n1)) (hb : b = true) (h0 : K k1 = 0) : rText K V (N + 1) n k f = (true, k1, f1, n1) := by
  subst hb; rw [rText, h]; simp [h0]
theorem rText_x {K V : Nat → Int32} {N n k k1 n1 : Nat} {f f1 : Nat → Int32} {b : Bool} (h : rLaw K V n k f = (b, k1, f1, n1)) (hb : b = true) (h0 : ¬ K k1 = 0) (h3 : ¬ K k1 = 3) : rText K V (N + 1) n k f = (false, k1, f1, n1) := by
  subst hb; rw [rText, h]; simp [h0, h3]
theorem rText_s {K V : Nat → Int32} {N n k k1 n1 : Nat} {f f1 : Nat → Int32} {b : Bool} (h : rLaw K V n k f = (b, k1, f1, n1)) (hb : b = true) (h3 : K k1 = 3) : rText K V (N + 1) n k f = rText K V N n1 (k1 + 1) f1 := by
  subst hb; rw [rText, h]; simp [h3]
theorem isW_ne {K V : Nat → Int32} {k : Nat} {a b : Int32} (h : isW K V k a b = true) : K k ≠ 0 := by
  unfold isW at h
  simp only [Bool.and_eq_true, decide_eq_true_eq] at h
  rw [h.1]; decide
theorem grS {K V : Nat → Int32} {k : Nat} (h : isW K V k 4 8 = true) : V k - 4 = 0 ∨ V k - 4 = 1 ∨ V k - 4 = 2 ∨ V k - 4 = 3 ∨ V k - 4 = 4 := by
  unfold isW at h
  simp only [Bool.and_eq_true] at h
  obtain ⟨q, h1, h2, e⟩ := wn_nI (a := 4) (b := 8) (by decide) (by decide) h.2
  have : q = 4 ∨ q = 5 ∨ q = 6 ∨ q = 7 ∨ q = 8 := by omega
  rcases this with rfl | rfl | rfl | rfl | rfl <;> rw [e] <;> decide
theorem nI_ne4 {k : Nat} (h : k < 2 ^ 31) : nI k ≠ -4 := by
  intro e
  have h1 := congrArg Int32.toInt e
  rw [nI_toInt h] at h1
  have h2 : (-4 : Int32).toInt = -4 := by decide
  omega

theorem rLaw_t {K V : Nat → Int32} {n k k1 : Nat} {f f1 : Nat → Int32} {b : Bool} (h1 : isW K V k 9 9 = true) (h2 : n < 12) (h : rLawB K V n (k + 1) (apF f n) = (b, k1, f1)) : rLaw K V n k f = (b, k1, f1, n + 1) := by
  unfold rLaw
  rw [h, if_pos (by simp [h1, h2])]

set_option maxHeartbeats 4000000 in
set_option maxRecDepth 100000 in
theorem k_X4_isWord (l : Launch) {G : GT} {c : Nat → va_E} {cl : Int32} {kn : Nat} {kk ks kv : Nat → Int32} (k1 : c 12 = .inr (7, [.ref (gad G 13), .ref (gad G 14), .ref (gad G 15), .int (nI kn)])) (k2 : c 13 = .inl (gI G, 121, .inl kk)) (k3 : c 14 = .inl (gI G, 121, .inl ks)) (k4 : c 15 = .inl (gI G, 121, .inl kv)) (hkn : kn ≤ 121) {K V : Nat → Int32} {lk n : Nat} {f : Nat → Int32} (r1 : c 11 = .inr (3, [.ref (gad G 1), .ref (gad G 12), .int (nI (lk)), .int (cl)])) (h1 : c 1 = .inr (0, [.ref (gad G 2), .int (nI n)])) (h2 : c 2 = .inl (gI G, 132, .inl f)) (hT : ∀ x, x < kn → kk x = K x ∧ kv x = V x) (hE : ∀ x, x < kn → K x ≠ 0 → x + 1 < kn) (hlk : lk < kn) (hn : n ≤ 12) {a b : Int32} : Met l yX4_isWord (wv yX4_isWord cX4_isWord 3 (some .boolean)) ({ frames := 1, cells := 0, slots := 0, locals := 22 } : Room) (va_Pc [.ref (gad G 11), .int a, .int b] (fun U => Hw G c U U.heap)) (vp_Si (fun r => r = bi (isW K V lk a b))) 0 0 (fun _ => False) := by
  refine en (by decide +kernel) (by first | exact Nat.le_of_ble_eq_true rfl | decide) ?_
  intro p e s m below meth cd ls hx hb hr hml hown hts hlocks hnm hw hl
  have hl : lv_has ls 3 [(0, .ref (gad G 11)), (1, .int a), (2, .int b)] := hl
  refine lv_aload_n hx hb dX4_isWord_0 rfl (lv_at hl 0 rfl) ?_
  refine w_get (C := RX4) (T := TX4) (N := 4) 1 hx hb hts inX4 hown hw (by decide) r1 rfl (by decide) (hts _ tw_110) rfl dX4_isWord_1 ?_
  refine lv_aload_n hx hb dX4_isWord_4 rfl (lv_at hl 0 rfl) ?_
  refine w_get (C := RX4) (T := TX4) (N := 4) 2 hx hb hts inX4 hown hw (by decide) r1 rfl (by decide) (hts _ tw_111) rfl dX4_isWord_5 ?_
  refine cSe (rV (As := [_]) ⟨hx, hb, hml, hown, hts⟩ hw (k_X8_kindAt l k1 k2 k3 k4 hkn (by omega)) (cv_X8_kindAt hts tw_727 rfl rfl ⟨Nat.le_of_ble_eq_true rfl, Nat.le_of_ble_eq_true rfl⟩) (by decide) k1 rfl rfl hl.1 rfl (by first | exact Nat.le_of_ble_eq_true rfl | decide) dX4_isWord_8 ⟨Nat.zero_le _, Nat.zero_le _⟩) ?_
  refine tp (y := K (lk)) (by rw [kat, if_pos hlk]; exact (hT _ hlk).1) ?_
  refine lv_iconst (v := 1) hx hb dX4_isWord_11 (by decide) ?_
  refine lv_icmp_ne (tgt := 38) hx hb dX4_isWord_12 (by decide) (fun c12 => ?_) (fun c12 => ?_)
  · refine lv_iconst (v := 0) hx hb dX4_isWord_38 (by decide) ?_
    exact re_S hx hb hr hlocks (rfl) dX4_isWord_39 (by simp [bi, isW, c12])
  · refine lv_aload_n hx hb dX4_isWord_15 rfl (lv_at hl 0 rfl) ?_
    refine w_get (C := RX4) (T := TX4) (N := 4) 1 hx hb hts inX4 hown hw (by decide) r1 rfl (by decide) (hts _ tw_110) rfl dX4_isWord_16 ?_
    refine lv_aload_n hx hb dX4_isWord_19 rfl (lv_at hl 0 rfl) ?_
    refine w_get (C := RX4) (T := TX4) (N := 4) 2 hx hb hts inX4 hown hw (by decide) r1 rfl (by decide) (hts _ tw_111) rfl dX4_isWord_20 ?_
    refine cSe (rV (As := [_]) ⟨hx, hb, hml, hown, hts⟩ hw (k_X8_valueAt l k1 k2 k3 k4 hkn (by omega)) (cv_X8_valueAt hts tw_731 rfl rfl ⟨Nat.le_of_ble_eq_true rfl, Nat.le_of_ble_eq_true rfl⟩) (by decide) k1 rfl rfl hl.1 rfl (by first | exact Nat.le_of_ble_eq_true rfl | decide) dX4_isWord_23 ⟨Nat.zero_le _, Nat.zero_le _⟩) ?_
    refine tp (y := V (lk)) (by rw [kat, if_pos hlk]; exact (hT _ hlk).2) ?_
    refine lv_iload_n hx hb dX4_isWord_26 rfl (lv_at hl 1 rfl) ?_
    refine lv_iload_n hx hb dX4_isWord_27 rfl (lv_at hl 2 rfl) ?_
    refine cSe (rSN (As := [_, _, _]) ⟨hx, hb, hml, hown, hts⟩ (k_X10_within l ) ⟨va_cnB 3 hts (gdI tw_211) rfl rfl rfl hw.2.2.2.1.2 (hts _ tw_2) (by decide +kernel) ⟨Nat.le_of_ble_eq_true rfl, Nat.le_of_ble_eq_true rfl⟩, hts _ tw_210, trivial⟩ rfl hl.1 rfl (by first | exact Nat.le_of_ble_eq_true rfl | decide) dX4_isWord_28 ⟨Nat.zero_le _, Nat.zero_le _⟩) ?_
    refine zb_eq (tgt := 38) hx hb dX4_isWord_31 (by decide) (fun c31 => ?_) (fun c31 => ?_)
    · refine lv_iconst (v := 0) hx hb dX4_isWord_38 (by decide) ?_
      exact re_S hx hb hr hlocks (rfl) dX4_isWord_39 (by simp [bi, isW, c12, c31])
    · refine lv_iconst (v := 1) hx hb dX4_isWord_34 (by decide) ?_
      refine lv_goto (tgt := 39) hx hb dX4_isWord_35 (by decide) ?_
      exact re_S hx hb hr hlocks (rfl) dX4_isWord_39 (by simp [bi, isW, c12, c31])
set_option maxHeartbeats 4000000 in
set_option maxRecDepth 100000 in
theorem k_X4_takeWord (l : Launch) {G : GT} {c : Nat → va_E} {q : Nat} {kn : Nat} {kk ks kv : Nat → Int32} (k1 : c 12 = .inr (7, [.ref (gad G 13), .ref (gad G 14), .ref (gad G 15), .int (nI kn)])) (k2 : c 13 = .inl (gI G, 121, .inl kk)) (k3 : c 14 = .inl (gI G, 121, .inl ks)) (k4 : c 15 = .inl (gI G, 121, .inl kv)) (hkn : kn ≤ 121) {K V : Nat → Int32} {lk n : Nat} {f : Nat → Int32} (r1 : c 11 = .inr (3, [.ref (gad G 1), .ref (gad G 12), .int (nI (lk)), .int (nI q)])) (h1 : c 1 = .inr (0, [.ref (gad G 2), .int (nI n)])) (h2 : c 2 = .inl (gI G, 132, .inl f)) (hT : ∀ x, x < kn → kk x = K x ∧ kv x = V x) (hE : ∀ x, x < kn → K x ≠ 0 → x + 1 < kn) (hlk : lk < kn) (hn : n ≤ 12) (hq : q < 12) {w : Int32} : Met l yX4_takeWord (wv yX4_takeWord cX4_takeWord 2 (some .boolean)) ({ frames := 2, cells := 0, slots := 0, locals := 44 } : Room) (va_Pc [.ref (gad G 11), .int w] (fun U => Hw G c U U.heap)) (va_Qi (fun r (c9 : Nat → va_E) => ∃ (b9 : Bool) (k9 : Nat) (f9 : Nat → Int32), tW K V w lk f = (b9, k9, f9) ∧ k9 < kn ∧ r = bi b9 ∧ c9 = D2 2 11 c (.inl (gI G, 132, .inl f9)) (.inr (3, [.ref (gad G 1), .ref (gad G 12), .int (nI (k9)), .int (nI q)]))) (fun c9 t => Hw G c9 t t.heap) (gA G)) 0 0 (gA G) := by
  refine en (by decide +kernel) (by first | exact Nat.le_of_ble_eq_true rfl | decide) ?_
  intro p e s m below meth cd ls hx hb hr hml hown hts hlocks hnm hw hl
  have hl : lv_has ls 2 [(0, .ref (gad G 11)), (1, .int w)] := hl
  have hX : Sw G s s.heap := hw.2.2.2.2.2
  have hS : va_S (gA G) s.heap s.heap [] := va_S.rf
  obtain ⟨H, hH⟩ : ∃ wz9, wz9 = s.heap := ⟨_, rfl⟩
  obtain ⟨locs, hlocs⟩ : ∃ wz9 : List Loc, wz9 = [] := ⟨_, rfl⟩
  have hw : Hw G c s H := by rw [hH]; exact hw
  have hS : va_S (gA G) s.heap H locs := by rw [hH, hlocs]; exact hS
  suffices hgo : W p l e ({ frames := 2, cells := 0, slots := 0, locals := 44 } : Room) s m (([.ref (gad G 11), .int w] : List Value).toArray) below meth cd H locs 0 0 (MQ below (va_Qi (fun r (c9 : Nat → va_E) => ∃ (b9 : Bool) (k9 : Nat) (f9 : Nat → Int32), tW K V w lk f = (b9, k9, f9) ∧ k9 < kn ∧ r = bi b9 ∧ c9 = D2 2 11 c (.inl (gI G, 132, .inl f9)) (.inr (3, [.ref (gad G 1), .ref (gad G 12), .int (nI (k9)), .int (nI q)]))) (fun c9 t => Hw G c9 t t.heap) (gA G)) ([.ref (gad G 11), .int w] : List Value).toArray s 0 0 (gA G)) (F0 m 0 ls []) by rw [hH, hlocs] at hgo; exact hgo
  have hc : c = D2 2 11 c (.inl (gI G, 132, .inl f)) (.inr (3, [.ref (gad G 1), .ref (gad G 12), .int (nI (lk)), .int (nI q)])) := D2_id h2 r1
  refine lv_aload_n hx hb dX4_takeWord_0 rfl (lv_at hl 0 rfl) ?_
  refine lv_iload_n hx hb dX4_takeWord_1 rfl (lv_at hl 1 rfl) ?_
  refine lv_iload_n hx hb dX4_takeWord_2 rfl (lv_at hl 1 rfl) ?_
  refine cSe (rV (As := [_, _]) ⟨hx, hb, hml, hown, hts⟩ hw (k_X4_isWord l k1 k2 k3 k4 hkn r1 h1 h2 hT hE hlk hn) (cv_X4_isWord hts tw_723 rfl rfl ⟨Nat.le_of_ble_eq_true rfl, Nat.le_of_ble_eq_true rfl⟩) (by decide) r1 rfl rfl hl.1 rfl (by first | exact Nat.le_of_ble_eq_true rfl | decide) dX4_takeWord_3 ⟨Nat.zero_le _, Nat.zero_le _⟩) ?_
  refine zb_ne (tgt := 11) hx hb dX4_takeWord_6 (by decide) (fun c6 => ?_) (fun c6 => ?_)
  · refine lv_aload_n hx hb dX4_takeWord_11 rfl (lv_at hl 0 rfl) ?_
    refine lv_dup hx hb dX4_takeWord_12 rfl ?_
    refine w_get (C := RX4) (T := TX4) (N := 4) 2 hx hb hts inX4 hown hw (by decide) r1 rfl (by decide) (hts _ tw_111) rfl dX4_takeWord_13 ?_
    refine lv_iconst (v := 1) hx hb dX4_takeWord_16 (by decide) ?_
    refine lv_iadd hx hb dX4_takeWord_17 ?_
    refine tp (y := nI (lk + 1)) (nI_1 _) ?_
    refine w_put (C := RX4) (T := TX4) (N := 4) (v := .int (nI (lk + 1))) 2 tyX4 hx hb hts inX4 tyX4_ok nmX4 hown hw hX hS (by decide) r1 rfl (by decide) (hts _ tw_111) rfl rfl (rfl) (rfl) (Nat.le_of_ble_eq_true rfl) dX4_takeWord_18 (fun H locs hw hS => ?_)
    obtain ⟨w2, ew2⟩ : ∃ wz9 : Nat → va_E, wz9 = va_up c 11 (.inr (3, [.ref (gad G 1), .ref (gad G 12), .int (nI (lk + 1)), .int (nI q)])) := ⟨_, rfl⟩
    have hw : Hw G w2 s H := by rw [ew2]; exact hw
    have k1_2 : w2 12 = .inr (7, [.ref (gad G 13), .ref (gad G 14), .ref (gad G 15), .int (nI kn)]) := by rw [ew2]; exact vu_e (by decide) k1
    have k2_2 : w2 13 = .inl (gI G, 121, .inl kk) := by rw [ew2]; exact vu_e (by decide) k2
    have k3_2 : w2 14 = .inl (gI G, 121, .inl ks) := by rw [ew2]; exact vu_e (by decide) k3
    have k4_2 : w2 15 = .inl (gI G, 121, .inl kv) := by rw [ew2]; exact vu_e (by decide) k4
    have r1_2 : w2 11 = .inr (3, [.ref (gad G 1), .ref (gad G 12), .int (nI (lk + 1)), .int (nI q)]) := by rw [ew2]; exact vu_s
    have h1_2 : w2 1 = .inr (0, [.ref (gad G 2), .int (nI n)]) := by rw [ew2]; exact vu_e (by decide) h1
    have h2_2 : w2 2 = .inl (gI G, 132, .inl f) := by rw [ew2]; exact vu_e (by decide) h2
    refine lv_iconst (v := 1) hx hb dX4_takeWord_21 (by decide) ?_
    exact re_Q hx hb hr hlocks (rfl) hw hS dX4_takeWord_22 (⟨true, lk + 1, f, by rw [tW, if_pos c6], hE lk hlk (isW_ne c6), rfl, by rw [ew2]; first | done | (rw [hc]; simp only [r1p, r2p, r3p, r4p, r5p])⟩)
  · refine lv_iconst (v := 0) hx hb dX4_takeWord_9 (by decide) ?_
    exact re_Q hx hb hr hlocks (rfl) hw hS dX4_takeWord_10 (⟨false, lk, f, by rw [tW, if_neg (by rw [c6]; decide)], hlk, rfl, by first | done | (rw [hc]; simp only [r1p, r2p, r3p, r4p, r5p])⟩)
set_option maxHeartbeats 4000000 in
set_option maxRecDepth 100000 in
theorem k_X4_takeNumber (l : Launch) {G : GT} {c : Nat → va_E} {q : Nat} {kn : Nat} {kk ks kv : Nat → Int32} (k1 : c 12 = .inr (7, [.ref (gad G 13), .ref (gad G 14), .ref (gad G 15), .int (nI kn)])) (k2 : c 13 = .inl (gI G, 121, .inl kk)) (k3 : c 14 = .inl (gI G, 121, .inl ks)) (k4 : c 15 = .inl (gI G, 121, .inl kv)) (hkn : kn ≤ 121) {K V : Nat → Int32} {lk n : Nat} {f : Nat → Int32} (r1 : c 11 = .inr (3, [.ref (gad G 1), .ref (gad G 12), .int (nI (lk)), .int (nI q)])) (h1 : c 1 = .inr (0, [.ref (gad G 2), .int (nI n)])) (h2 : c 2 = .inl (gI G, 132, .inl f)) (hT : ∀ x, x < kn → kk x = K x ∧ kv x = V x) (hE : ∀ x, x < kn → K x ≠ 0 → x + 1 < kn) (hlk : lk < kn) (hn : n ≤ 12) (hq : q < 12) {fd : Nat} {a b : Int32} (hfd : fd < 11) : Met l yX4_takeNumber (wv yX4_takeNumber cX4_takeNumber 5 (some .boolean)) ({ frames := 1, cells := 0, slots := 0, locals := 23 } : Room) (va_Pc [.ref (gad G 11), .int (nI fd), .int a, .int b] (fun U => Hw G c U U.heap)) (va_Qi (fun r (c9 : Nat → va_E) => ∃ (b9 : Bool) (k9 : Nat) (f9 : Nat → Int32), tN K V (q * 11 + fd) a b lk f = (b9, k9, f9) ∧ k9 < kn ∧ r = bi b9 ∧ c9 = D2 2 11 c (.inl (gI G, 132, .inl f9)) (.inr (3, [.ref (gad G 1), .ref (gad G 12), .int (nI (k9)), .int (nI q)]))) (fun c9 t => Hw G c9 t t.heap) (gA G)) 0 0 (gA G) := by
  refine en (by decide +kernel) (by first | exact Nat.le_of_ble_eq_true rfl | decide) ?_
  intro p e s m below meth cd ls hx hb hr hml hown hts hlocks hnm hw hl
  have hl : lv_has ls 5 [(0, .ref (gad G 11)), (1, .int (nI fd)), (2, .int a), (3, .int b)] := hl
  have hX : Sw G s s.heap := hw.2.2.2.2.2
  have hS : va_S (gA G) s.heap s.heap [] := va_S.rf
  obtain ⟨H, hH⟩ : ∃ wz9, wz9 = s.heap := ⟨_, rfl⟩
  obtain ⟨locs, hlocs⟩ : ∃ wz9 : List Loc, wz9 = [] := ⟨_, rfl⟩
  have hw : Hw G c s H := by rw [hH]; exact hw
  have hS : va_S (gA G) s.heap H locs := by rw [hH, hlocs]; exact hS
  suffices hgo : W p l e ({ frames := 1, cells := 0, slots := 0, locals := 23 } : Room) s m (([.ref (gad G 11), .int (nI fd), .int a, .int b] : List Value).toArray) below meth cd H locs 0 0 (MQ below (va_Qi (fun r (c9 : Nat → va_E) => ∃ (b9 : Bool) (k9 : Nat) (f9 : Nat → Int32), tN K V (q * 11 + fd) a b lk f = (b9, k9, f9) ∧ k9 < kn ∧ r = bi b9 ∧ c9 = D2 2 11 c (.inl (gI G, 132, .inl f9)) (.inr (3, [.ref (gad G 1), .ref (gad G 12), .int (nI (k9)), .int (nI q)]))) (fun c9 t => Hw G c9 t t.heap) (gA G)) ([.ref (gad G 11), .int (nI fd), .int a, .int b] : List Value).toArray s 0 0 (gA G)) (F0 m 0 ls []) by rw [hH, hlocs] at hgo; exact hgo
  have hc : c = D2 2 11 c (.inl (gI G, 132, .inl f)) (.inr (3, [.ref (gad G 1), .ref (gad G 12), .int (nI (lk)), .int (nI q)])) := D2_id h2 r1
  refine lv_aload_n hx hb dX4_takeNumber_0 rfl (lv_at hl 0 rfl) ?_
  refine w_get (C := RX4) (T := TX4) (N := 4) 1 hx hb hts inX4 hown hw (by decide) r1 rfl (by decide) (hts _ tw_110) rfl dX4_takeNumber_1 ?_
  refine lv_aload_n hx hb dX4_takeNumber_4 rfl (lv_at hl 0 rfl) ?_
  refine w_get (C := RX4) (T := TX4) (N := 4) 2 hx hb hts inX4 hown hw (by decide) r1 rfl (by decide) (hts _ tw_111) rfl dX4_takeNumber_5 ?_
  refine cSe (rV (As := [_]) ⟨hx, hb, hml, hown, hts⟩ hw (k_X8_valueAt l k1 k2 k3 k4 hkn (by omega)) (cv_X8_valueAt hts tw_731 rfl rfl ⟨Nat.le_of_ble_eq_true rfl, Nat.le_of_ble_eq_true rfl⟩) (by decide) k1 rfl rfl hl.1 rfl (by first | exact Nat.le_of_ble_eq_true rfl | decide) dX4_takeNumber_8 ⟨Nat.zero_le _, Nat.zero_le _⟩) ?_
  refine tp (y := V (lk)) (by rw [kat, if_pos hlk]; exact (hT _ hlk).2) ?_
  refine lv_istore (lv' := [(4, _), (0, _), (1, _), (2, _), (3, _)]) hx hb dX4_takeNumber_11 hl (by decide) rfl (fun ls hl => ?_)
  refine lv_aload_n hx hb dX4_takeNumber_13 rfl (lv_at hl 1 rfl) ?_
  refine w_get (C := RX4) (T := TX4) (N := 4) 1 hx hb hts inX4 hown hw (by decide) r1 rfl (by decide) (hts _ tw_110) rfl dX4_takeNumber_14 ?_
  refine lv_aload_n hx hb dX4_takeNumber_17 rfl (lv_at hl 1 rfl) ?_
  refine w_get (C := RX4) (T := TX4) (N := 4) 2 hx hb hts inX4 hown hw (by decide) r1 rfl (by decide) (hts _ tw_111) rfl dX4_takeNumber_18 ?_
  refine cSe (rV (As := [_]) ⟨hx, hb, hml, hown, hts⟩ hw (k_X8_kindAt l k1 k2 k3 k4 hkn (by omega)) (cv_X8_kindAt hts tw_727 rfl rfl ⟨Nat.le_of_ble_eq_true rfl, Nat.le_of_ble_eq_true rfl⟩) (by decide) k1 rfl rfl hl.1 rfl (by first | exact Nat.le_of_ble_eq_true rfl | decide) dX4_takeNumber_21 ⟨Nat.zero_le _, Nat.zero_le _⟩) ?_
  refine tp (y := K (lk)) (by rw [kat, if_pos hlk]; exact (hT _ hlk).1) ?_
  refine lv_iconst (v := 2) hx hb dX4_takeNumber_24 (by decide) ?_
  refine lv_icmp_ne (tgt := 38) hx hb dX4_takeNumber_25 (by decide) (fun c25 => ?_) (fun c25 => ?_)
  · refine lv_iconst (v := 0) hx hb dX4_takeNumber_38 (by decide) ?_
    exact re_Q hx hb hr hlocks (rfl) hw hS dX4_takeNumber_39 (⟨false, lk, f, by rw [tN, if_neg (by simp [c25])], hlk, rfl, by first | done | (rw [hc]; simp only [r1p, r2p, r3p, r4p, r5p])⟩)
  · refine lv_iload hx hb dX4_takeNumber_28 (lv_at hl 0 rfl) ?_
    refine lv_iload_n hx hb dX4_takeNumber_30 rfl (lv_at hl 3 rfl) ?_
    refine lv_iload_n hx hb dX4_takeNumber_31 rfl (lv_at hl 4 rfl) ?_
    refine cSe (rSN (As := [_, _, _]) ⟨hx, hb, hml, hown, hts⟩ (k_X10_within l ) ⟨va_cnB 3 hts (gdI tw_211) rfl rfl rfl hw.2.2.2.1.2 (hts _ tw_2) (by decide +kernel) ⟨Nat.le_of_ble_eq_true rfl, Nat.le_of_ble_eq_true rfl⟩, hts _ tw_210, trivial⟩ rfl hl.1 rfl (by first | exact Nat.le_of_ble_eq_true rfl | decide) dX4_takeNumber_32 ⟨Nat.zero_le _, Nat.zero_le _⟩) ?_
    refine zb_ne (tgt := 40) hx hb dX4_takeNumber_35 (by decide) (fun c35 => ?_) (fun c35 => ?_)
    · refine lv_aload_n hx hb dX4_takeNumber_40 rfl (lv_at hl 1 rfl) ?_
      refine w_get (C := RX4) (T := TX4) (N := 4) 0 hx hb hts inX4 hown hw (by decide) r1 rfl (by decide) (hts _ tw_109) rfl dX4_takeNumber_41 ?_
      refine lv_aload_n hx hb dX4_takeNumber_44 rfl (lv_at hl 1 rfl) ?_
      refine w_get (C := RX4) (T := TX4) (N := 4) 3 hx hb hts inX4 hown hw (by decide) r1 rfl (by decide) (hts _ tw_112) rfl dX4_takeNumber_45 ?_
      refine lv_iload_n hx hb dX4_takeNumber_48 rfl (lv_at hl 2 rfl) ?_
      refine lv_iload hx hb dX4_takeNumber_49 (lv_at hl 0 rfl) ?_
      refine cQv (rV (As := [_, _, _]) ⟨hx, hb, hml, hown, hts⟩ hw (k_X1_put l (by decide) (by decide) h1 h2 hn (ix q fd) (by omega)) (cv_X1_put hts tw_749 rfl rfl ⟨Nat.le_of_ble_eq_true rfl, Nat.le_of_ble_eq_true rfl⟩) (by decide) h1 rfl rfl hl.1 rfl (by first | exact Nat.le_of_ble_eq_true rfl | decide) dX4_takeNumber_51 ⟨Nat.zero_le _, Nat.zero_le _⟩) hw hS (fun w1 H locs hp51 hw hS => ?_)
      have k1_1 : w1 12 = .inr (7, [.ref (gad G 13), .ref (gad G 14), .ref (gad G 15), .int (nI kn)]) := by rw [hp51]; exact vu_e (by decide) k1
      have k2_1 : w1 13 = .inl (gI G, 121, .inl kk) := by rw [hp51]; exact vu_e (by decide) k2
      have k3_1 : w1 14 = .inl (gI G, 121, .inl ks) := by rw [hp51]; exact vu_e (by decide) k3
      have k4_1 : w1 15 = .inl (gI G, 121, .inl kv) := by rw [hp51]; exact vu_e (by decide) k4
      have r1_1 : w1 11 = .inr (3, [.ref (gad G 1), .ref (gad G 12), .int (nI (lk)), .int (nI q)]) := by rw [hp51]; exact vu_e (by decide) r1
      have h1_1 : w1 1 = .inr (0, [.ref (gad G 2), .int (nI n)]) := by rw [hp51]; exact vu_e (by decide) h1
      have h2_1 : w1 2 = .inl (gI G, 132, .inl (upd f (q * 11 + fd) (V lk))) := by rw [hp51]; exact vu_s
      refine lv_aload_n hx hb dX4_takeNumber_54 rfl (lv_at hl 1 rfl) ?_
      refine lv_dup hx hb dX4_takeNumber_55 rfl ?_
      refine w_get (C := RX4) (T := TX4) (N := 4) 2 hx hb hts inX4 hown hw (by decide) r1_1 rfl (by decide) (hts _ tw_111) rfl dX4_takeNumber_56 ?_
      refine lv_iconst (v := 1) hx hb dX4_takeNumber_59 (by decide) ?_
      refine lv_iadd hx hb dX4_takeNumber_60 ?_
      refine tp (y := nI (lk + 1)) (nI_1 _) ?_
      refine w_put (C := RX4) (T := TX4) (N := 4) (v := .int (nI (lk + 1))) 2 tyX4 hx hb hts inX4 tyX4_ok nmX4 hown hw hX hS (by decide) r1_1 rfl (by decide) (hts _ tw_111) rfl rfl (rfl) (rfl) (Nat.le_of_ble_eq_true rfl) dX4_takeNumber_61 (fun H locs hw hS => ?_)
      obtain ⟨w3, ew3⟩ : ∃ wz9 : Nat → va_E, wz9 = va_up w1 11 (.inr (3, [.ref (gad G 1), .ref (gad G 12), .int (nI (lk + 1)), .int (nI q)])) := ⟨_, rfl⟩
      have hw : Hw G w3 s H := by rw [ew3]; exact hw
      have k1_3 : w3 12 = .inr (7, [.ref (gad G 13), .ref (gad G 14), .ref (gad G 15), .int (nI kn)]) := by rw [ew3]; exact vu_e (by decide) k1_1
      have k2_3 : w3 13 = .inl (gI G, 121, .inl kk) := by rw [ew3]; exact vu_e (by decide) k2_1
      have k3_3 : w3 14 = .inl (gI G, 121, .inl ks) := by rw [ew3]; exact vu_e (by decide) k3_1
      have k4_3 : w3 15 = .inl (gI G, 121, .inl kv) := by rw [ew3]; exact vu_e (by decide) k4_1
      have r1_3 : w3 11 = .inr (3, [.ref (gad G 1), .ref (gad G 12), .int (nI (lk + 1)), .int (nI q)]) := by rw [ew3]; exact vu_s
      have h1_3 : w3 1 = .inr (0, [.ref (gad G 2), .int (nI n)]) := by rw [ew3]; exact vu_e (by decide) h1_1
      have h2_3 : w3 2 = .inl (gI G, 132, .inl (upd f (q * 11 + fd) (V lk))) := by rw [ew3]; exact vu_e (by decide) h2_1
      refine lv_iconst (v := 1) hx hb dX4_takeNumber_64 (by decide) ?_
      exact re_Q hx hb hr hlocks (rfl) hw hS dX4_takeNumber_65 (⟨true, lk + 1, (upd f (q * 11 + fd) (V lk)), by rw [tN, if_pos (by simp [c25, c35])], hE lk hlk (by rw [c25]; decide), rfl, by rw [ew3, hp51]; first | done | (rw [hc]; simp only [r1p, r2p, r3p, r4p, r5p])⟩)
    · refine lv_iconst (v := 0) hx hb dX4_takeNumber_38 (by decide) ?_
      exact re_Q hx hb hr hlocks (rfl) hw hS dX4_takeNumber_39 (⟨false, lk, f, by rw [tN, if_neg (by simp [c25, c35])], hlk, rfl, by first | done | (rw [hc]; simp only [r1p, r2p, r3p, r4p, r5p])⟩)
set_option maxHeartbeats 4000000 in
set_option maxRecDepth 100000 in
theorem k_X4_takeTrait (l : Launch) {G : GT} {c : Nat → va_E} {q : Nat} {kn : Nat} {kk ks kv : Nat → Int32} (k1 : c 12 = .inr (7, [.ref (gad G 13), .ref (gad G 14), .ref (gad G 15), .int (nI kn)])) (k2 : c 13 = .inl (gI G, 121, .inl kk)) (k3 : c 14 = .inl (gI G, 121, .inl ks)) (k4 : c 15 = .inl (gI G, 121, .inl kv)) (hkn : kn ≤ 121) {K V : Nat → Int32} {lk n : Nat} {f : Nat → Int32} (r1 : c 11 = .inr (3, [.ref (gad G 1), .ref (gad G 12), .int (nI (lk)), .int (nI q)])) (h1 : c 1 = .inr (0, [.ref (gad G 2), .int (nI n)])) (h2 : c 2 = .inl (gI G, 132, .inl f)) (hT : ∀ x, x < kn → kk x = K x ∧ kv x = V x) (hE : ∀ x, x < kn → K x ≠ 0 → x + 1 < kn) (hlk : lk < kn) (hn : n ≤ 12) (hq : q < 12) {fd : Nat} (hfd : fd < 11) : Met l yX4_takeTrait (wv yX4_takeTrait cX4_takeTrait 2 (some .boolean)) ({ frames := 2, cells := 0, slots := 0, locals := 44 } : Room) (va_Pc [.ref (gad G 11), .int (nI fd)] (fun U => Hw G c U U.heap)) (va_Qi (fun r (c9 : Nat → va_E) => ∃ (b9 : Bool) (k9 : Nat) (f9 : Nat → Int32), tTr K V (q * 11 + fd) lk f = (b9, k9, f9) ∧ k9 < kn ∧ r = bi b9 ∧ c9 = D2 2 11 c (.inl (gI G, 132, .inl f9)) (.inr (3, [.ref (gad G 1), .ref (gad G 12), .int (nI (k9)), .int (nI q)]))) (fun c9 t => Hw G c9 t t.heap) (gA G)) 0 0 (gA G) := by
  refine en (by decide +kernel) (by first | exact Nat.le_of_ble_eq_true rfl | decide) ?_
  intro p e s m below meth cd ls hx hb hr hml hown hts hlocks hnm hw hl
  have hl : lv_has ls 2 [(0, .ref (gad G 11)), (1, .int (nI fd))] := hl
  have hX : Sw G s s.heap := hw.2.2.2.2.2
  have hS : va_S (gA G) s.heap s.heap [] := va_S.rf
  obtain ⟨H, hH⟩ : ∃ wz9, wz9 = s.heap := ⟨_, rfl⟩
  obtain ⟨locs, hlocs⟩ : ∃ wz9 : List Loc, wz9 = [] := ⟨_, rfl⟩
  have hw : Hw G c s H := by rw [hH]; exact hw
  have hS : va_S (gA G) s.heap H locs := by rw [hH, hlocs]; exact hS
  suffices hgo : W p l e ({ frames := 2, cells := 0, slots := 0, locals := 44 } : Room) s m (([.ref (gad G 11), .int (nI fd)] : List Value).toArray) below meth cd H locs 0 0 (MQ below (va_Qi (fun r (c9 : Nat → va_E) => ∃ (b9 : Bool) (k9 : Nat) (f9 : Nat → Int32), tTr K V (q * 11 + fd) lk f = (b9, k9, f9) ∧ k9 < kn ∧ r = bi b9 ∧ c9 = D2 2 11 c (.inl (gI G, 132, .inl f9)) (.inr (3, [.ref (gad G 1), .ref (gad G 12), .int (nI (k9)), .int (nI q)]))) (fun c9 t => Hw G c9 t t.heap) (gA G)) ([.ref (gad G 11), .int (nI fd)] : List Value).toArray s 0 0 (gA G)) (F0 m 0 ls []) by rw [hH, hlocs] at hgo; exact hgo
  have hc : c = D2 2 11 c (.inl (gI G, 132, .inl f)) (.inr (3, [.ref (gad G 1), .ref (gad G 12), .int (nI (lk)), .int (nI q)])) := D2_id h2 r1
  refine lv_aload_n hx hb dX4_takeTrait_0 rfl (lv_at hl 0 rfl) ?_
  refine lv_iconst (v := 0) hx hb dX4_takeTrait_1 (by decide) ?_
  refine lv_iconst (v := 3) hx hb dX4_takeTrait_2 (by decide) ?_
  refine cSe (rV (As := [_, _]) ⟨hx, hb, hml, hown, hts⟩ hw (k_X4_isWord l k1 k2 k3 k4 hkn r1 h1 h2 hT hE hlk hn) (cv_X4_isWord hts tw_723 rfl rfl ⟨Nat.le_of_ble_eq_true rfl, Nat.le_of_ble_eq_true rfl⟩) (by decide) r1 rfl rfl hl.1 rfl (by first | exact Nat.le_of_ble_eq_true rfl | decide) dX4_takeTrait_3 ⟨Nat.zero_le _, Nat.zero_le _⟩) ?_
  refine zb_ne (tgt := 11) hx hb dX4_takeTrait_6 (by decide) (fun c6 => ?_) (fun c6 => ?_)
  · refine lv_aload_n hx hb dX4_takeTrait_11 rfl (lv_at hl 0 rfl) ?_
    refine w_get (C := RX4) (T := TX4) (N := 4) 0 hx hb hts inX4 hown hw (by decide) r1 rfl (by decide) (hts _ tw_109) rfl dX4_takeTrait_12 ?_
    refine lv_aload_n hx hb dX4_takeTrait_15 rfl (lv_at hl 0 rfl) ?_
    refine w_get (C := RX4) (T := TX4) (N := 4) 3 hx hb hts inX4 hown hw (by decide) r1 rfl (by decide) (hts _ tw_112) rfl dX4_takeTrait_16 ?_
    refine lv_iload_n hx hb dX4_takeTrait_19 rfl (lv_at hl 1 rfl) ?_
    refine lv_aload_n hx hb dX4_takeTrait_20 rfl (lv_at hl 0 rfl) ?_
    refine w_get (C := RX4) (T := TX4) (N := 4) 1 hx hb hts inX4 hown hw (by decide) r1 rfl (by decide) (hts _ tw_110) rfl dX4_takeTrait_21 ?_
    refine lv_aload_n hx hb dX4_takeTrait_24 rfl (lv_at hl 0 rfl) ?_
    refine w_get (C := RX4) (T := TX4) (N := 4) 2 hx hb hts inX4 hown hw (by decide) r1 rfl (by decide) (hts _ tw_111) rfl dX4_takeTrait_25 ?_
    refine cSe (rV (As := [_]) ⟨hx, hb, hml, hown, hts⟩ hw (k_X8_valueAt l k1 k2 k3 k4 hkn (by omega)) (cv_X8_valueAt hts tw_731 rfl rfl ⟨Nat.le_of_ble_eq_true rfl, Nat.le_of_ble_eq_true rfl⟩) (by decide) k1 rfl rfl hl.1 rfl (by first | exact Nat.le_of_ble_eq_true rfl | decide) dX4_takeTrait_28 ⟨Nat.zero_le _, Nat.zero_le _⟩) ?_
    refine tp (y := V (lk)) (by rw [kat, if_pos hlk]; exact (hT _ hlk).2) ?_
    refine lv_iconst (v := 0) hx hb dX4_takeTrait_31 (by decide) ?_
    refine lv_isub hx hb dX4_takeTrait_32 ?_
    refine tp (y := V lk) (by simp) ?_
    refine cQv (rV (As := [_, _, _]) ⟨hx, hb, hml, hown, hts⟩ hw (k_X1_put l (by decide) (by decide) h1 h2 hn (ix q fd) (by omega)) (cv_X1_put hts tw_749 rfl rfl ⟨Nat.le_of_ble_eq_true rfl, Nat.le_of_ble_eq_true rfl⟩) (by decide) h1 rfl rfl hl.1 rfl (by first | exact Nat.le_of_ble_eq_true rfl | decide) dX4_takeTrait_33 ⟨Nat.zero_le _, Nat.zero_le _⟩) hw hS (fun w1 H locs hp33 hw hS => ?_)
    have k1_1 : w1 12 = .inr (7, [.ref (gad G 13), .ref (gad G 14), .ref (gad G 15), .int (nI kn)]) := by rw [hp33]; exact vu_e (by decide) k1
    have k2_1 : w1 13 = .inl (gI G, 121, .inl kk) := by rw [hp33]; exact vu_e (by decide) k2
    have k3_1 : w1 14 = .inl (gI G, 121, .inl ks) := by rw [hp33]; exact vu_e (by decide) k3
    have k4_1 : w1 15 = .inl (gI G, 121, .inl kv) := by rw [hp33]; exact vu_e (by decide) k4
    have r1_1 : w1 11 = .inr (3, [.ref (gad G 1), .ref (gad G 12), .int (nI (lk)), .int (nI q)]) := by rw [hp33]; exact vu_e (by decide) r1
    have h1_1 : w1 1 = .inr (0, [.ref (gad G 2), .int (nI n)]) := by rw [hp33]; exact vu_e (by decide) h1
    have h2_1 : w1 2 = .inl (gI G, 132, .inl (upd f (q * 11 + fd) (V lk))) := by rw [hp33]; exact vu_s
    refine lv_aload_n hx hb dX4_takeTrait_36 rfl (lv_at hl 0 rfl) ?_
    refine lv_dup hx hb dX4_takeTrait_37 rfl ?_
    refine w_get (C := RX4) (T := TX4) (N := 4) 2 hx hb hts inX4 hown hw (by decide) r1_1 rfl (by decide) (hts _ tw_111) rfl dX4_takeTrait_38 ?_
    refine lv_iconst (v := 1) hx hb dX4_takeTrait_41 (by decide) ?_
    refine lv_iadd hx hb dX4_takeTrait_42 ?_
    refine tp (y := nI (lk + 1)) (nI_1 _) ?_
    refine w_put (C := RX4) (T := TX4) (N := 4) (v := .int (nI (lk + 1))) 2 tyX4 hx hb hts inX4 tyX4_ok nmX4 hown hw hX hS (by decide) r1_1 rfl (by decide) (hts _ tw_111) rfl rfl (rfl) (rfl) (Nat.le_of_ble_eq_true rfl) dX4_takeTrait_43 (fun H locs hw hS => ?_)
    obtain ⟨w3, ew3⟩ : ∃ wz9 : Nat → va_E, wz9 = va_up w1 11 (.inr (3, [.ref (gad G 1), .ref (gad G 12), .int (nI (lk + 1)), .int (nI q)])) := ⟨_, rfl⟩
    have hw : Hw G w3 s H := by rw [ew3]; exact hw
    have k1_3 : w3 12 = .inr (7, [.ref (gad G 13), .ref (gad G 14), .ref (gad G 15), .int (nI kn)]) := by rw [ew3]; exact vu_e (by decide) k1_1
    have k2_3 : w3 13 = .inl (gI G, 121, .inl kk) := by rw [ew3]; exact vu_e (by decide) k2_1
    have k3_3 : w3 14 = .inl (gI G, 121, .inl ks) := by rw [ew3]; exact vu_e (by decide) k3_1
    have k4_3 : w3 15 = .inl (gI G, 121, .inl kv) := by rw [ew3]; exact vu_e (by decide) k4_1
    have r1_3 : w3 11 = .inr (3, [.ref (gad G 1), .ref (gad G 12), .int (nI (lk + 1)), .int (nI q)]) := by rw [ew3]; exact vu_s
    have h1_3 : w3 1 = .inr (0, [.ref (gad G 2), .int (nI n)]) := by rw [ew3]; exact vu_e (by decide) h1_1
    have h2_3 : w3 2 = .inl (gI G, 132, .inl (upd f (q * 11 + fd) (V lk))) := by rw [ew3]; exact vu_e (by decide) h2_1
    refine lv_iconst (v := 1) hx hb dX4_takeTrait_46 (by decide) ?_
    exact re_Q hx hb hr hlocks (rfl) hw hS dX4_takeTrait_47 (⟨true, lk + 1, (upd f (q * 11 + fd) (V lk)), by rw [tTr, if_pos c6], hE lk hlk (isW_ne c6), rfl, by rw [ew3, hp33]; first | done | (rw [hc]; simp only [r1p, r2p, r3p, r4p, r5p])⟩)
  · refine lv_iconst (v := 0) hx hb dX4_takeTrait_9 (by decide) ?_
    exact re_Q hx hb hr hlocks (rfl) hw hS dX4_takeTrait_10 (⟨false, lk, f, by rw [tTr, if_neg (by rw [c6]; decide)], hlk, rfl, by first | done | (rw [hc]; simp only [r1p, r2p, r3p, r4p, r5p])⟩)
set_option maxHeartbeats 4000000 in
set_option maxRecDepth 100000 in
theorem k_X4_readLowAndHigh (l : Launch) {G : GT} {c : Nat → va_E} {q : Nat} {kn : Nat} {kk ks kv : Nat → Int32} (k1 : c 12 = .inr (7, [.ref (gad G 13), .ref (gad G 14), .ref (gad G 15), .int (nI kn)])) (k2 : c 13 = .inl (gI G, 121, .inl kk)) (k3 : c 14 = .inl (gI G, 121, .inl ks)) (k4 : c 15 = .inl (gI G, 121, .inl kv)) (hkn : kn ≤ 121) {K V : Nat → Int32} {lk n : Nat} {f : Nat → Int32} (r1 : c 11 = .inr (3, [.ref (gad G 1), .ref (gad G 12), .int (nI (lk)), .int (nI q)])) (h1 : c 1 = .inr (0, [.ref (gad G 2), .int (nI n)])) (h2 : c 2 = .inl (gI G, 132, .inl f)) (hT : ∀ x, x < kn → kk x = K x ∧ kv x = V x) (hE : ∀ x, x < kn → K x ≠ 0 → x + 1 < kn) (hlk : lk < kn) (hn : n ≤ 12) (hq : q < 12) {how most : Int32} : Met l yX4_readLowAndHigh (wv yX4_readLowAndHigh cX4_readLowAndHigh 3 (some .boolean)) ({ frames := 2, cells := 0, slots := 0, locals := 47 } : Room) (va_Pc [.ref (gad G 11), .int how, .int most] (fun U => Hw G c U U.heap)) (va_Qi (fun r (c9 : Nat → va_E) => ∃ (b9 : Bool) (k9 : Nat) (f9 : Nat → Int32), rLH K V q how most lk f = (b9, k9, f9) ∧ k9 < kn ∧ r = bi b9 ∧ c9 = D2 2 11 c (.inl (gI G, 132, .inl f9)) (.inr (3, [.ref (gad G 1), .ref (gad G 12), .int (nI (k9)), .int (nI q)]))) (fun c9 t => Hw G c9 t t.heap) (gA G)) 0 0 (gA G) := by
  refine en (by decide +kernel) (by first | exact Nat.le_of_ble_eq_true rfl | decide) ?_
  intro p e s m below meth cd ls hx hb hr hml hown hts hlocks hnm hw hl
  have hl : lv_has ls 3 [(0, .ref (gad G 11)), (1, .int how), (2, .int most)] := hl
  have hX : Sw G s s.heap := hw.2.2.2.2.2
  have hS : va_S (gA G) s.heap s.heap [] := va_S.rf
  obtain ⟨H, hH⟩ : ∃ wz9, wz9 = s.heap := ⟨_, rfl⟩
  obtain ⟨locs, hlocs⟩ : ∃ wz9 : List Loc, wz9 = [] := ⟨_, rfl⟩
  have hw : Hw G c s H := by rw [hH]; exact hw
  have hS : va_S (gA G) s.heap H locs := by rw [hH, hlocs]; exact hS
  suffices hgo : W p l e ({ frames := 2, cells := 0, slots := 0, locals := 47 } : Room) s m (([.ref (gad G 11), .int how, .int most] : List Value).toArray) below meth cd H locs 0 0 (MQ below (va_Qi (fun r (c9 : Nat → va_E) => ∃ (b9 : Bool) (k9 : Nat) (f9 : Nat → Int32), rLH K V q how most lk f = (b9, k9, f9) ∧ k9 < kn ∧ r = bi b9 ∧ c9 = D2 2 11 c (.inl (gI G, 132, .inl f9)) (.inr (3, [.ref (gad G 1), .ref (gad G 12), .int (nI (k9)), .int (nI q)]))) (fun c9 t => Hw G c9 t t.heap) (gA G)) ([.ref (gad G 11), .int how, .int most] : List Value).toArray s 0 0 (gA G)) (F0 m 0 ls []) by rw [hH, hlocs] at hgo; exact hgo
  have hc : c = D2 2 11 c (.inl (gI G, 132, .inl f)) (.inr (3, [.ref (gad G 1), .ref (gad G 12), .int (nI (lk)), .int (nI q)])) := D2_id h2 r1
  refine lv_aload_n hx hb dX4_readLowAndHigh_0 rfl (lv_at hl 0 rfl) ?_
  refine w_get (C := RX4) (T := TX4) (N := 4) 0 hx hb hts inX4 hown hw (by decide) r1 rfl (by decide) (hts _ tw_109) rfl dX4_readLowAndHigh_1 ?_
  refine lv_aload_n hx hb dX4_readLowAndHigh_4 rfl (lv_at hl 0 rfl) ?_
  refine w_get (C := RX4) (T := TX4) (N := 4) 3 hx hb hts inX4 hown hw (by decide) r1 rfl (by decide) (hts _ tw_112) rfl dX4_readLowAndHigh_5 ?_
  refine lv_iconst (v := 0) hx hb dX4_readLowAndHigh_8 (by decide) ?_
  refine lv_iload_n hx hb dX4_readLowAndHigh_9 rfl (lv_at hl 1 rfl) ?_
  refine cQv (rV (As := [_, _, _]) ⟨hx, hb, hml, hown, hts⟩ hw (k_X1_put l (by decide) (by decide) h1 h2 hn (ix q 0) (by omega)) (cv_X1_put hts tw_749 rfl rfl ⟨Nat.le_of_ble_eq_true rfl, Nat.le_of_ble_eq_true rfl⟩) (by decide) h1 rfl rfl hl.1 rfl (by first | exact Nat.le_of_ble_eq_true rfl | decide) dX4_readLowAndHigh_10 ⟨Nat.zero_le _, Nat.zero_le _⟩) hw hS (fun w1 H locs hp10 hw hS => ?_)
  have k1_1 : w1 12 = .inr (7, [.ref (gad G 13), .ref (gad G 14), .ref (gad G 15), .int (nI kn)]) := by rw [hp10]; exact vu_e (by decide) k1
  have k2_1 : w1 13 = .inl (gI G, 121, .inl kk) := by rw [hp10]; exact vu_e (by decide) k2
  have k3_1 : w1 14 = .inl (gI G, 121, .inl ks) := by rw [hp10]; exact vu_e (by decide) k3
  have k4_1 : w1 15 = .inl (gI G, 121, .inl kv) := by rw [hp10]; exact vu_e (by decide) k4
  have r1_1 : w1 11 = .inr (3, [.ref (gad G 1), .ref (gad G 12), .int (nI (lk)), .int (nI q)]) := by rw [hp10]; exact vu_e (by decide) r1
  have h1_1 : w1 1 = .inr (0, [.ref (gad G 2), .int (nI n)]) := by rw [hp10]; exact vu_e (by decide) h1
  have h2_1 : w1 2 = .inl (gI G, 132, .inl (upd f (q * 11 + 0) (how))) := by rw [hp10]; exact vu_s
  refine lv_aload_n hx hb dX4_readLowAndHigh_13 rfl (lv_at hl 0 rfl) ?_
  refine lv_iconst (v := 2) hx hb dX4_readLowAndHigh_14 (by decide) ?_
  refine lv_iconst (v := 0) hx hb dX4_readLowAndHigh_15 (by decide) ?_
  refine lv_iload_n hx hb dX4_readLowAndHigh_16 rfl (lv_at hl 2 rfl) ?_
  refine cQi (rV (As := [_, _, _]) ⟨hx, hb, hml, hown, hts⟩ hw (k_X4_takeNumber l k1_1 k2_1 k3_1 k4_1 hkn r1_1 h1_1 h2_1 hT hE hlk hn hq (fd := 2) (by omega)) (cv_X4_takeNumber hts tw_750 rfl rfl ⟨Nat.le_of_ble_eq_true rfl, Nat.le_of_ble_eq_true rfl⟩) (by decide) r1_1 rfl rfl hl.1 rfl (by first | exact Nat.le_of_ble_eq_true rfl | decide) dX4_readLowAndHigh_17 ⟨Nat.zero_le _, Nat.zero_le _⟩) hw hS (fun r17 w2 H locs hp17 hw hS => ?_)
  obtain ⟨b17, kz17, f17, hX17, hl17, rfl, hp17⟩ := hp17
  have k1_2 : w2 12 = .inr (7, [.ref (gad G 13), .ref (gad G 14), .ref (gad G 15), .int (nI kn)]) := by rw [hp17]; exact D2_o (by decide) (by decide) k1_1
  have k2_2 : w2 13 = .inl (gI G, 121, .inl kk) := by rw [hp17]; exact D2_o (by decide) (by decide) k2_1
  have k3_2 : w2 14 = .inl (gI G, 121, .inl ks) := by rw [hp17]; exact D2_o (by decide) (by decide) k3_1
  have k4_2 : w2 15 = .inl (gI G, 121, .inl kv) := by rw [hp17]; exact D2_o (by decide) (by decide) k4_1
  have r1_2 : w2 11 = .inr (3, [.ref (gad G 1), .ref (gad G 12), .int (nI (kz17)), .int (nI q)]) := by rw [hp17]; exact D2_j
  have h1_2 : w2 1 = .inr (0, [.ref (gad G 2), .int (nI n)]) := by rw [hp17]; exact D2_o (by decide) (by decide) h1_1
  have h2_2 : w2 2 = .inl (gI G, 132, .inl f17) := by rw [hp17]; exact D2_i (by decide)
  refine zb_eq (tgt := 37) hx hb dX4_readLowAndHigh_20 (by decide) (fun c20 => ?_) (fun c20 => ?_)
  · refine lv_iconst (v := 0) hx hb dX4_readLowAndHigh_37 (by decide) ?_
    exact re_Q hx hb hr hlocks (rfl) hw hS dX4_readLowAndHigh_38 (⟨false, kz17, f17, by rw [rLH, bnd_f hX17 c20], hl17, rfl, by rw [hp17, hp10]; first | done | (rw [hc]; simp only [r1p, r2p, r3p, r4p, r5p])⟩)
  · skip
    refine lv_aload_n hx hb dX4_readLowAndHigh_23 rfl (lv_at hl 0 rfl) ?_
    refine lv_iconst (v := 3) hx hb dX4_readLowAndHigh_24 (by decide) ?_
    refine lv_iconst (v := 0) hx hb dX4_readLowAndHigh_25 (by decide) ?_
    refine lv_iload_n hx hb dX4_readLowAndHigh_26 rfl (lv_at hl 2 rfl) ?_
    refine cQi (rV (As := [_, _, _]) ⟨hx, hb, hml, hown, hts⟩ hw (k_X4_takeNumber l k1_2 k2_2 k3_2 k4_2 hkn r1_2 h1_2 h2_2 hT hE hl17 hn hq (fd := 3) (by omega)) (cv_X4_takeNumber hts tw_750 rfl rfl ⟨Nat.le_of_ble_eq_true rfl, Nat.le_of_ble_eq_true rfl⟩) (by decide) r1_2 rfl rfl hl.1 rfl (by first | exact Nat.le_of_ble_eq_true rfl | decide) dX4_readLowAndHigh_27 ⟨Nat.zero_le _, Nat.zero_le _⟩) hw hS (fun r27 w3 H locs hp27 hw hS => ?_)
    obtain ⟨b27, kz27, f27, hX27, hl27, rfl, hp27⟩ := hp27
    have k1_3 : w3 12 = .inr (7, [.ref (gad G 13), .ref (gad G 14), .ref (gad G 15), .int (nI kn)]) := by rw [hp27]; exact D2_o (by decide) (by decide) k1_2
    have k2_3 : w3 13 = .inl (gI G, 121, .inl kk) := by rw [hp27]; exact D2_o (by decide) (by decide) k2_2
    have k3_3 : w3 14 = .inl (gI G, 121, .inl ks) := by rw [hp27]; exact D2_o (by decide) (by decide) k3_2
    have k4_3 : w3 15 = .inl (gI G, 121, .inl kv) := by rw [hp27]; exact D2_o (by decide) (by decide) k4_2
    have r1_3 : w3 11 = .inr (3, [.ref (gad G 1), .ref (gad G 12), .int (nI (kz27)), .int (nI q)]) := by rw [hp27]; exact D2_j
    have h1_3 : w3 1 = .inr (0, [.ref (gad G 2), .int (nI n)]) := by rw [hp27]; exact D2_o (by decide) (by decide) h1_2
    have h2_3 : w3 2 = .inl (gI G, 132, .inl f27) := by rw [hp27]; exact D2_i (by decide)
    refine zb_eq (tgt := 37) hx hb dX4_readLowAndHigh_30 (by decide) (fun c30 => ?_) (fun c30 => ?_)
    · refine lv_iconst (v := 0) hx hb dX4_readLowAndHigh_37 (by decide) ?_
      exact re_Q hx hb hr hlocks (rfl) hw hS dX4_readLowAndHigh_38 (⟨false, kz27, f27, by rw [rLH, bnd_t hX17 c20, hX27, c30], hl27, rfl, by rw [hp27, hp17, hp10]; first | done | (rw [hc]; simp only [r1p, r2p, r3p, r4p, r5p])⟩)
    · skip
      refine lv_iconst (v := 1) hx hb dX4_readLowAndHigh_33 (by decide) ?_
      refine lv_goto (tgt := 38) hx hb dX4_readLowAndHigh_34 (by decide) ?_
      exact re_Q hx hb hr hlocks (rfl) hw hS dX4_readLowAndHigh_38 (⟨true, kz27, f27, by rw [rLH, bnd_t hX17 c20, hX27, c30], hl27, rfl, by rw [hp27, hp17, hp10]; first | done | (rw [hc]; simp only [r1p, r2p, r3p, r4p, r5p])⟩)
set_option maxHeartbeats 4000000 in
set_option maxRecDepth 100000 in
theorem k_X4_readTest (l : Launch) {G : GT} {c : Nat → va_E} {q : Nat} {kn : Nat} {kk ks kv : Nat → Int32} (k1 : c 12 = .inr (7, [.ref (gad G 13), .ref (gad G 14), .ref (gad G 15), .int (nI kn)])) (k2 : c 13 = .inl (gI G, 121, .inl kk)) (k3 : c 14 = .inl (gI G, 121, .inl ks)) (k4 : c 15 = .inl (gI G, 121, .inl kv)) (hkn : kn ≤ 121) {K V : Nat → Int32} {lk n : Nat} {f : Nat → Int32} (r1 : c 11 = .inr (3, [.ref (gad G 1), .ref (gad G 12), .int (nI (lk)), .int (nI q)])) (h1 : c 1 = .inr (0, [.ref (gad G 2), .int (nI n)])) (h2 : c 2 = .inl (gI G, 132, .inl f)) (hT : ∀ x, x < kn → kk x = K x ∧ kv x = V x) (hE : ∀ x, x < kn → K x ≠ 0 → x + 1 < kn) (hlk : lk < kn) (hn : n ≤ 12) (hq : q < 12)  : Met l yX4_readTest (wv yX4_readTest cX4_readTest 1 (some .boolean)) ({ frames := 3, cells := 0, slots := 0, locals := 69 } : Room) (va_Pc [.ref (gad G 11)] (fun U => Hw G c U U.heap)) (va_Qi (fun r (c9 : Nat → va_E) => ∃ (b9 : Bool) (k9 : Nat) (f9 : Nat → Int32), rTest K V q lk f = (b9, k9, f9) ∧ k9 < kn ∧ r = bi b9 ∧ c9 = D2 2 11 c (.inl (gI G, 132, .inl f9)) (.inr (3, [.ref (gad G 1), .ref (gad G 12), .int (nI (k9)), .int (nI q)]))) (fun c9 t => Hw G c9 t t.heap) (gA G)) 0 0 (gA G) := by
  refine en (by decide +kernel) (by first | exact Nat.le_of_ble_eq_true rfl | decide) ?_
  intro p e s m below meth cd ls hx hb hr hml hown hts hlocks hnm hw hl
  have hl : lv_has ls 1 [(0, .ref (gad G 11))] := hl
  have hX : Sw G s s.heap := hw.2.2.2.2.2
  have hS : va_S (gA G) s.heap s.heap [] := va_S.rf
  obtain ⟨H, hH⟩ : ∃ wz9, wz9 = s.heap := ⟨_, rfl⟩
  obtain ⟨locs, hlocs⟩ : ∃ wz9 : List Loc, wz9 = [] := ⟨_, rfl⟩
  have hw : Hw G c s H := by rw [hH]; exact hw
  have hS : va_S (gA G) s.heap H locs := by rw [hH, hlocs]; exact hS
  suffices hgo : W p l e ({ frames := 3, cells := 0, slots := 0, locals := 69 } : Room) s m (([.ref (gad G 11)] : List Value).toArray) below meth cd H locs 0 0 (MQ below (va_Qi (fun r (c9 : Nat → va_E) => ∃ (b9 : Bool) (k9 : Nat) (f9 : Nat → Int32), rTest K V q lk f = (b9, k9, f9) ∧ k9 < kn ∧ r = bi b9 ∧ c9 = D2 2 11 c (.inl (gI G, 132, .inl f9)) (.inr (3, [.ref (gad G 1), .ref (gad G 12), .int (nI (k9)), .int (nI q)]))) (fun c9 t => Hw G c9 t t.heap) (gA G)) ([.ref (gad G 11)] : List Value).toArray s 0 0 (gA G)) (F0 m 0 ls []) by rw [hH, hlocs] at hgo; exact hgo
  have hc : c = D2 2 11 c (.inl (gI G, 132, .inl f)) (.inr (3, [.ref (gad G 1), .ref (gad G 12), .int (nI (lk)), .int (nI q)])) := D2_id h2 r1
  refine lv_aload_n hx hb dX4_readTest_0 rfl (lv_at hl 0 rfl) ?_
  refine lv_bipush (v := 11) hx hb dX4_readTest_1 (by decide) ?_
  refine cQi (rV (As := [_]) ⟨hx, hb, hml, hown, hts⟩ hw (k_X4_takeWord l k1 k2 k3 k4 hkn r1 h1 h2 hT hE hlk hn hq (w := 11)) (cv_X4_takeWord hts tw_741 rfl rfl ⟨Nat.le_of_ble_eq_true rfl, Nat.le_of_ble_eq_true rfl⟩) (by decide) r1 rfl rfl hl.1 rfl (by first | exact Nat.le_of_ble_eq_true rfl | decide) dX4_readTest_3 ⟨Nat.zero_le _, Nat.zero_le _⟩) hw hS (fun r3 w1 H locs hp3 hw hS => ?_)
  obtain ⟨b3, kz3, f3, hX3, hl3, rfl, hp3⟩ := hp3
  have k1_1 : w1 12 = .inr (7, [.ref (gad G 13), .ref (gad G 14), .ref (gad G 15), .int (nI kn)]) := by rw [hp3]; exact D2_o (by decide) (by decide) k1
  have k2_1 : w1 13 = .inl (gI G, 121, .inl kk) := by rw [hp3]; exact D2_o (by decide) (by decide) k2
  have k3_1 : w1 14 = .inl (gI G, 121, .inl ks) := by rw [hp3]; exact D2_o (by decide) (by decide) k3
  have k4_1 : w1 15 = .inl (gI G, 121, .inl kv) := by rw [hp3]; exact D2_o (by decide) (by decide) k4
  have r1_1 : w1 11 = .inr (3, [.ref (gad G 1), .ref (gad G 12), .int (nI (kz3)), .int (nI q)]) := by rw [hp3]; exact D2_j
  have h1_1 : w1 1 = .inr (0, [.ref (gad G 2), .int (nI n)]) := by rw [hp3]; exact D2_o (by decide) (by decide) h1
  have h2_1 : w1 2 = .inl (gI G, 132, .inl f3) := by rw [hp3]; exact D2_i (by decide)
  refine zb_eq (tgt := 11) hx hb dX4_readTest_6 (by decide) (fun c6 => ?_) (fun c6 => ?_)
  · refine lv_aload_n hx hb dX4_readTest_11 rfl (lv_at hl 0 rfl) ?_
    refine lv_bipush (v := 13) hx hb dX4_readTest_12 (by decide) ?_
    refine cQi (rV (As := [_]) ⟨hx, hb, hml, hown, hts⟩ hw (k_X4_takeWord l k1_1 k2_1 k3_1 k4_1 hkn r1_1 h1_1 h2_1 hT hE hl3 hn hq (w := 13)) (cv_X4_takeWord hts tw_741 rfl rfl ⟨Nat.le_of_ble_eq_true rfl, Nat.le_of_ble_eq_true rfl⟩) (by decide) r1_1 rfl rfl hl.1 rfl (by first | exact Nat.le_of_ble_eq_true rfl | decide) dX4_readTest_14 ⟨Nat.zero_le _, Nat.zero_le _⟩) hw hS (fun r14 w2 H locs hp14 hw hS => ?_)
    obtain ⟨b14, kz14, f14, hX14, hl14, rfl, hp14⟩ := hp14
    have k1_2 : w2 12 = .inr (7, [.ref (gad G 13), .ref (gad G 14), .ref (gad G 15), .int (nI kn)]) := by rw [hp14]; exact D2_o (by decide) (by decide) k1_1
    have k2_2 : w2 13 = .inl (gI G, 121, .inl kk) := by rw [hp14]; exact D2_o (by decide) (by decide) k2_1
    have k3_2 : w2 14 = .inl (gI G, 121, .inl ks) := by rw [hp14]; exact D2_o (by decide) (by decide) k3_1
    have k4_2 : w2 15 = .inl (gI G, 121, .inl kv) := by rw [hp14]; exact D2_o (by decide) (by decide) k4_1
    have r1_2 : w2 11 = .inr (3, [.ref (gad G 1), .ref (gad G 12), .int (nI (kz14)), .int (nI q)]) := by rw [hp14]; exact D2_j
    have h1_2 : w2 1 = .inr (0, [.ref (gad G 2), .int (nI n)]) := by rw [hp14]; exact D2_o (by decide) (by decide) h1_1
    have h2_2 : w2 2 = .inl (gI G, 132, .inl f14) := by rw [hp14]; exact D2_i (by decide)
    refine zb_eq (tgt := 28) hx hb dX4_readTest_17 (by decide) (fun c17 => ?_) (fun c17 => ?_)
    · refine lv_aload_n hx hb dX4_readTest_28 rfl (lv_at hl 0 rfl) ?_
      refine lv_iconst (v := 1) hx hb dX4_readTest_29 (by decide) ?_
      refine cQi (rV (As := [_]) ⟨hx, hb, hml, hown, hts⟩ hw (k_X4_takeTrait l k1_2 k2_2 k3_2 k4_2 hkn r1_2 h1_2 h2_2 hT hE hl14 hn hq (fd := 1) (by omega)) (cv_X4_takeTrait hts tw_754 rfl rfl ⟨Nat.le_of_ble_eq_true rfl, Nat.le_of_ble_eq_true rfl⟩) (by decide) r1_2 rfl rfl hl.1 rfl (by first | exact Nat.le_of_ble_eq_true rfl | decide) dX4_readTest_30 ⟨Nat.zero_le _, Nat.zero_le _⟩) hw hS (fun r30 w3 H locs hp30 hw hS => ?_)
      obtain ⟨b30, kz30, f30, hX30, hl30, rfl, hp30⟩ := hp30
      have k1_3 : w3 12 = .inr (7, [.ref (gad G 13), .ref (gad G 14), .ref (gad G 15), .int (nI kn)]) := by rw [hp30]; exact D2_o (by decide) (by decide) k1_2
      have k2_3 : w3 13 = .inl (gI G, 121, .inl kk) := by rw [hp30]; exact D2_o (by decide) (by decide) k2_2
      have k3_3 : w3 14 = .inl (gI G, 121, .inl ks) := by rw [hp30]; exact D2_o (by decide) (by decide) k3_2
      have k4_3 : w3 15 = .inl (gI G, 121, .inl kv) := by rw [hp30]; exact D2_o (by decide) (by decide) k4_2
      have r1_3 : w3 11 = .inr (3, [.ref (gad G 1), .ref (gad G 12), .int (nI (kz30)), .int (nI q)]) := by rw [hp30]; exact D2_j
      have h1_3 : w3 1 = .inr (0, [.ref (gad G 2), .int (nI n)]) := by rw [hp30]; exact D2_o (by decide) (by decide) h1_2
      have h2_3 : w3 2 = .inl (gI G, 132, .inl f30) := by rw [hp30]; exact D2_i (by decide)
      refine zb_ne (tgt := 38) hx hb dX4_readTest_33 (by decide) (fun c33 => ?_) (fun c33 => ?_)
      · refine lv_aload_n hx hb dX4_readTest_38 rfl (lv_at hl 0 rfl) ?_
        refine lv_aload_n hx hb dX4_readTest_39 rfl (lv_at hl 0 rfl) ?_
        refine lv_bipush (v := 12) hx hb dX4_readTest_40 (by decide) ?_
        refine cQi (rV (As := [_]) ⟨hx, hb, hml, hown, hts⟩ hw (k_X4_takeWord l k1_3 k2_3 k3_3 k4_3 hkn r1_3 h1_3 h2_3 hT hE hl30 hn hq (w := 12)) (cv_X4_takeWord hts tw_741 rfl rfl ⟨Nat.le_of_ble_eq_true rfl, Nat.le_of_ble_eq_true rfl⟩) (by decide) r1_3 rfl rfl hl.1 rfl (by first | exact Nat.le_of_ble_eq_true rfl | decide) dX4_readTest_42 ⟨Nat.zero_le _, Nat.zero_le _⟩) hw hS (fun r42 w4 H locs hp42 hw hS => ?_)
        obtain ⟨b42, kz42, f42, hX42, hl42, rfl, hp42⟩ := hp42
        have k1_4 : w4 12 = .inr (7, [.ref (gad G 13), .ref (gad G 14), .ref (gad G 15), .int (nI kn)]) := by rw [hp42]; exact D2_o (by decide) (by decide) k1_3
        have k2_4 : w4 13 = .inl (gI G, 121, .inl kk) := by rw [hp42]; exact D2_o (by decide) (by decide) k2_3
        have k3_4 : w4 14 = .inl (gI G, 121, .inl ks) := by rw [hp42]; exact D2_o (by decide) (by decide) k3_3
        have k4_4 : w4 15 = .inl (gI G, 121, .inl kv) := by rw [hp42]; exact D2_o (by decide) (by decide) k4_3
        have r1_4 : w4 11 = .inr (3, [.ref (gad G 1), .ref (gad G 12), .int (nI (kz42)), .int (nI q)]) := by rw [hp42]; exact D2_j
        have h1_4 : w4 1 = .inr (0, [.ref (gad G 2), .int (nI n)]) := by rw [hp42]; exact D2_o (by decide) (by decide) h1_3
        have h2_4 : w4 2 = .inl (gI G, 132, .inl f42) := by rw [hp42]; exact D2_i (by decide)
        refine zb_eq (tgt := 52) hx hb dX4_readTest_45 (by decide) (fun c45 => ?_) (fun c45 => ?_)
        · refine lv_iconst (v := 1) hx hb dX4_readTest_52 (by decide) ?_
          refine lv_bipush (v := 99) hx hb dX4_readTest_53 (by decide) ?_
          refine cQi (rV (As := [_, _]) ⟨hx, hb, hml, hown, hts⟩ hw (k_X4_readLowAndHigh l k1_4 k2_4 k3_4 k4_4 hkn r1_4 h1_4 h2_4 hT hE hl42 hn hq (how := 1) (most := 99)) (cv_X4_readLowAndHigh hts tw_745 rfl rfl ⟨Nat.le_of_ble_eq_true rfl, Nat.le_of_ble_eq_true rfl⟩) (by decide) r1_4 rfl rfl hl.1 rfl (by first | exact Nat.le_of_ble_eq_true rfl | decide) dX4_readTest_55 ⟨Nat.zero_le _, Nat.zero_le _⟩) hw hS (fun r55 w5 H locs hp55 hw hS => ?_)
          obtain ⟨b55, kz55, f55, hX55, hl55, rfl, hp55⟩ := hp55
          have k1_5 : w5 12 = .inr (7, [.ref (gad G 13), .ref (gad G 14), .ref (gad G 15), .int (nI kn)]) := by rw [hp55]; exact D2_o (by decide) (by decide) k1_4
          have k2_5 : w5 13 = .inl (gI G, 121, .inl kk) := by rw [hp55]; exact D2_o (by decide) (by decide) k2_4
          have k3_5 : w5 14 = .inl (gI G, 121, .inl ks) := by rw [hp55]; exact D2_o (by decide) (by decide) k3_4
          have k4_5 : w5 15 = .inl (gI G, 121, .inl kv) := by rw [hp55]; exact D2_o (by decide) (by decide) k4_4
          have r1_5 : w5 11 = .inr (3, [.ref (gad G 1), .ref (gad G 12), .int (nI (kz55)), .int (nI q)]) := by rw [hp55]; exact D2_j
          have h1_5 : w5 1 = .inr (0, [.ref (gad G 2), .int (nI n)]) := by rw [hp55]; exact D2_o (by decide) (by decide) h1_4
          have h2_5 : w5 2 = .inl (gI G, 132, .inl f55) := by rw [hp55]; exact D2_i (by decide)
          exact re_Q hx hb hr hlocks (bi_n _) hw hS dX4_readTest_58 (⟨b55, kz55, f55, by rw [rTest, orr_f hX3 c6, orr_f hX14 c17, bnd_t hX30 c33, orr_f hX42 c45, hX55], hl55, rfl, by rw [hp55, hp42, hp30, hp14, hp3]; first | done | (rw [hc]; simp only [r1p, r2p, r3p, r4p, r5p])⟩)
        · skip
          refine lv_iconst (v := 2) hx hb dX4_readTest_48 (by decide) ?_
          refine lv_goto (tgt := 53) hx hb dX4_readTest_49 (by decide) ?_
          refine lv_bipush (v := 99) hx hb dX4_readTest_53 (by decide) ?_
          refine cQi (rV (As := [_, _]) ⟨hx, hb, hml, hown, hts⟩ hw (k_X4_readLowAndHigh l k1_4 k2_4 k3_4 k4_4 hkn r1_4 h1_4 h2_4 hT hE hl42 hn hq (how := 2) (most := 99)) (cv_X4_readLowAndHigh hts tw_745 rfl rfl ⟨Nat.le_of_ble_eq_true rfl, Nat.le_of_ble_eq_true rfl⟩) (by decide) r1_4 rfl rfl hl.1 rfl (by first | exact Nat.le_of_ble_eq_true rfl | decide) dX4_readTest_55 ⟨Nat.zero_le _, Nat.zero_le _⟩) hw hS (fun r55 w6 H locs hp55 hw hS => ?_)
          obtain ⟨b55, kz55, f55, hX55, hl55, rfl, hp55⟩ := hp55
          have k1_6 : w6 12 = .inr (7, [.ref (gad G 13), .ref (gad G 14), .ref (gad G 15), .int (nI kn)]) := by rw [hp55]; exact D2_o (by decide) (by decide) k1_4
          have k2_6 : w6 13 = .inl (gI G, 121, .inl kk) := by rw [hp55]; exact D2_o (by decide) (by decide) k2_4
          have k3_6 : w6 14 = .inl (gI G, 121, .inl ks) := by rw [hp55]; exact D2_o (by decide) (by decide) k3_4
          have k4_6 : w6 15 = .inl (gI G, 121, .inl kv) := by rw [hp55]; exact D2_o (by decide) (by decide) k4_4
          have r1_6 : w6 11 = .inr (3, [.ref (gad G 1), .ref (gad G 12), .int (nI (kz55)), .int (nI q)]) := by rw [hp55]; exact D2_j
          have h1_6 : w6 1 = .inr (0, [.ref (gad G 2), .int (nI n)]) := by rw [hp55]; exact D2_o (by decide) (by decide) h1_4
          have h2_6 : w6 2 = .inl (gI G, 132, .inl f55) := by rw [hp55]; exact D2_i (by decide)
          exact re_Q hx hb hr hlocks (bi_n _) hw hS dX4_readTest_58 (⟨b55, kz55, f55, by rw [rTest, orr_f hX3 c6, orr_f hX14 c17, bnd_t hX30 c33, orr_t hX42 c45, hX55], hl55, rfl, by rw [hp55, hp42, hp30, hp14, hp3]; first | done | (rw [hc]; simp only [r1p, r2p, r3p, r4p, r5p])⟩)
      · refine lv_iconst (v := 0) hx hb dX4_readTest_36 (by decide) ?_
        exact re_Q hx hb hr hlocks (rfl) hw hS dX4_readTest_37 (⟨false, kz30, f30, by rw [rTest, orr_f hX3 c6, orr_f hX14 c17, bnd_f hX30 c33], hl30, rfl, by rw [hp30, hp14, hp3]; first | done | (rw [hc]; simp only [r1p, r2p, r3p, r4p, r5p])⟩)
    · refine lv_aload_n hx hb dX4_readTest_20 rfl (lv_at hl 0 rfl) ?_
      refine lv_iconst (v := 3) hx hb dX4_readTest_21 (by decide) ?_
      refine lv_bipush (v := 31) hx hb dX4_readTest_22 (by decide) ?_
      refine cQi (rV (As := [_, _]) ⟨hx, hb, hml, hown, hts⟩ hw (k_X4_readLowAndHigh l k1_2 k2_2 k3_2 k4_2 hkn r1_2 h1_2 h2_2 hT hE hl14 hn hq (how := 3) (most := 31)) (cv_X4_readLowAndHigh hts tw_745 rfl rfl ⟨Nat.le_of_ble_eq_true rfl, Nat.le_of_ble_eq_true rfl⟩) (by decide) r1_2 rfl rfl hl.1 rfl (by first | exact Nat.le_of_ble_eq_true rfl | decide) dX4_readTest_24 ⟨Nat.zero_le _, Nat.zero_le _⟩) hw hS (fun r24 w7 H locs hp24 hw hS => ?_)
      obtain ⟨b24, kz24, f24, hX24, hl24, rfl, hp24⟩ := hp24
      have k1_7 : w7 12 = .inr (7, [.ref (gad G 13), .ref (gad G 14), .ref (gad G 15), .int (nI kn)]) := by rw [hp24]; exact D2_o (by decide) (by decide) k1_2
      have k2_7 : w7 13 = .inl (gI G, 121, .inl kk) := by rw [hp24]; exact D2_o (by decide) (by decide) k2_2
      have k3_7 : w7 14 = .inl (gI G, 121, .inl ks) := by rw [hp24]; exact D2_o (by decide) (by decide) k3_2
      have k4_7 : w7 15 = .inl (gI G, 121, .inl kv) := by rw [hp24]; exact D2_o (by decide) (by decide) k4_2
      have r1_7 : w7 11 = .inr (3, [.ref (gad G 1), .ref (gad G 12), .int (nI (kz24)), .int (nI q)]) := by rw [hp24]; exact D2_j
      have h1_7 : w7 1 = .inr (0, [.ref (gad G 2), .int (nI n)]) := by rw [hp24]; exact D2_o (by decide) (by decide) h1_2
      have h2_7 : w7 2 = .inl (gI G, 132, .inl f24) := by rw [hp24]; exact D2_i (by decide)
      exact re_Q hx hb hr hlocks (bi_n _) hw hS dX4_readTest_27 (⟨b24, kz24, f24, by rw [rTest, orr_f hX3 c6, orr_t hX14 c17, hX24], hl24, rfl, by rw [hp24, hp14, hp3]; first | done | (rw [hc]; simp only [r1p, r2p, r3p, r4p, r5p])⟩)
  · refine lv_iconst (v := 1) hx hb dX4_readTest_9 (by decide) ?_
    exact re_Q hx hb hr hlocks (rfl) hw hS dX4_readTest_10 (⟨true, kz3, f3, by rw [rTest, orr_t hX3 c6], hl3, rfl, by rw [hp3]; first | done | (rw [hc]; simp only [r1p, r2p, r3p, r4p, r5p])⟩)
set_option maxHeartbeats 4000000 in
set_option maxRecDepth 100000 in
theorem k_X4_readGrant (l : Launch) {G : GT} {c : Nat → va_E} {q : Nat} {kn : Nat} {kk ks kv : Nat → Int32} (k1 : c 12 = .inr (7, [.ref (gad G 13), .ref (gad G 14), .ref (gad G 15), .int (nI kn)])) (k2 : c 13 = .inl (gI G, 121, .inl kk)) (k3 : c 14 = .inl (gI G, 121, .inl ks)) (k4 : c 15 = .inl (gI G, 121, .inl kv)) (hkn : kn ≤ 121) {K V : Nat → Int32} {lk n : Nat} {f : Nat → Int32} (r1 : c 11 = .inr (3, [.ref (gad G 1), .ref (gad G 12), .int (nI (lk)), .int (nI q)])) (h1 : c 1 = .inr (0, [.ref (gad G 2), .int (nI n)])) (h2 : c 2 = .inl (gI G, 132, .inl f)) (hT : ∀ x, x < kn → kk x = K x ∧ kv x = V x) (hE : ∀ x, x < kn → K x ≠ 0 → x + 1 < kn) (hlk : lk < kn) (hn : n ≤ 12) (hq : q < 12)  : Met l yX4_readGrant (wv yX4_readGrant cX4_readGrant 2 (some .boolean)) ({ frames := 3, cells := 0, slots := 0, locals := 65 } : Room) (va_Pc [.ref (gad G 11)] (fun U => Hw G c U U.heap)) (va_Qi (fun r (c9 : Nat → va_E) => ∃ (b9 : Bool) (k9 : Nat) (f9 : Nat → Int32), rGrant K V q lk f = (b9, k9, f9) ∧ k9 < kn ∧ r = bi b9 ∧ c9 = D2 2 11 c (.inl (gI G, 132, .inl f9)) (.inr (3, [.ref (gad G 1), .ref (gad G 12), .int (nI (k9)), .int (nI q)]))) (fun c9 t => Hw G c9 t t.heap) (gA G)) 0 0 (gA G) := by
  refine en (by decide +kernel) (by first | exact Nat.le_of_ble_eq_true rfl | decide) ?_
  intro p e s m below meth cd ls hx hb hr hml hown hts hlocks hnm hw hl
  have hl : lv_has ls 2 [(0, .ref (gad G 11))] := hl
  have hX : Sw G s s.heap := hw.2.2.2.2.2
  have hS : va_S (gA G) s.heap s.heap [] := va_S.rf
  obtain ⟨H, hH⟩ : ∃ wz9, wz9 = s.heap := ⟨_, rfl⟩
  obtain ⟨locs, hlocs⟩ : ∃ wz9 : List Loc, wz9 = [] := ⟨_, rfl⟩
  have hw : Hw G c s H := by rw [hH]; exact hw
  have hS : va_S (gA G) s.heap H locs := by rw [hH, hlocs]; exact hS
  suffices hgo : W p l e ({ frames := 3, cells := 0, slots := 0, locals := 65 } : Room) s m (([.ref (gad G 11)] : List Value).toArray) below meth cd H locs 0 0 (MQ below (va_Qi (fun r (c9 : Nat → va_E) => ∃ (b9 : Bool) (k9 : Nat) (f9 : Nat → Int32), rGrant K V q lk f = (b9, k9, f9) ∧ k9 < kn ∧ r = bi b9 ∧ c9 = D2 2 11 c (.inl (gI G, 132, .inl f9)) (.inr (3, [.ref (gad G 1), .ref (gad G 12), .int (nI (k9)), .int (nI q)]))) (fun c9 t => Hw G c9 t t.heap) (gA G)) ([.ref (gad G 11)] : List Value).toArray s 0 0 (gA G)) (F0 m 0 ls []) by rw [hH, hlocs] at hgo; exact hgo
  have hc : c = D2 2 11 c (.inl (gI G, 132, .inl f)) (.inr (3, [.ref (gad G 1), .ref (gad G 12), .int (nI (lk)), .int (nI q)])) := D2_id h2 r1
  refine lv_aload_n hx hb dX4_readGrant_0 rfl (lv_at hl 0 rfl) ?_
  refine lv_iconst (v := 4) hx hb dX4_readGrant_1 (by decide) ?_
  refine lv_bipush (v := 8) hx hb dX4_readGrant_2 (by decide) ?_
  refine cSe (rV (As := [_, _]) ⟨hx, hb, hml, hown, hts⟩ hw (k_X4_isWord l k1 k2 k3 k4 hkn r1 h1 h2 hT hE hlk hn) (cv_X4_isWord hts tw_723 rfl rfl ⟨Nat.le_of_ble_eq_true rfl, Nat.le_of_ble_eq_true rfl⟩) (by decide) r1 rfl rfl hl.1 rfl (by first | exact Nat.le_of_ble_eq_true rfl | decide) dX4_readGrant_4 ⟨Nat.zero_le _, Nat.zero_le _⟩) ?_
  refine zb_ne (tgt := 12) hx hb dX4_readGrant_7 (by decide) (fun c7 => ?_) (fun c7 => ?_)
  · refine lv_aload_n hx hb dX4_readGrant_12 rfl (lv_at hl 0 rfl) ?_
    refine w_get (C := RX4) (T := TX4) (N := 4) 1 hx hb hts inX4 hown hw (by decide) r1 rfl (by decide) (hts _ tw_110) rfl dX4_readGrant_13 ?_
    refine lv_aload_n hx hb dX4_readGrant_16 rfl (lv_at hl 0 rfl) ?_
    refine w_get (C := RX4) (T := TX4) (N := 4) 2 hx hb hts inX4 hown hw (by decide) r1 rfl (by decide) (hts _ tw_111) rfl dX4_readGrant_17 ?_
    refine cSe (rV (As := [_]) ⟨hx, hb, hml, hown, hts⟩ hw (k_X8_valueAt l k1 k2 k3 k4 hkn (by omega)) (cv_X8_valueAt hts tw_731 rfl rfl ⟨Nat.le_of_ble_eq_true rfl, Nat.le_of_ble_eq_true rfl⟩) (by decide) k1 rfl rfl hl.1 rfl (by first | exact Nat.le_of_ble_eq_true rfl | decide) dX4_readGrant_20 ⟨Nat.zero_le _, Nat.zero_le _⟩) ?_
    refine tp (y := V (lk)) (by rw [kat, if_pos hlk]; exact (hT _ hlk).2) ?_
    refine lv_iconst (v := 4) hx hb dX4_readGrant_23 (by decide) ?_
    refine lv_isub hx hb dX4_readGrant_24 ?_
    rcases grS c7 with hsv | hsv | hsv | hsv | hsv
    · refine tp (y := 0) hsv ?_
      refine lv_istore_n (lv' := [(1, _), (0, _)]) hx hb dX4_readGrant_25 rfl hl (by decide) rfl (fun ls hl => ?_)
      refine lv_aload_n hx hb dX4_readGrant_26 rfl (lv_at hl 1 rfl) ?_
      refine w_get (C := RX4) (T := TX4) (N := 4) 0 hx hb hts inX4 hown hw (by decide) r1 rfl (by decide) (hts _ tw_109) rfl dX4_readGrant_27 ?_
      refine lv_aload_n hx hb dX4_readGrant_30 rfl (lv_at hl 1 rfl) ?_
      refine w_get (C := RX4) (T := TX4) (N := 4) 3 hx hb hts inX4 hown hw (by decide) r1 rfl (by decide) (hts _ tw_112) rfl dX4_readGrant_31 ?_
      refine lv_iconst (v := 4) hx hb dX4_readGrant_34 (by decide) ?_
      refine lv_iload_n hx hb dX4_readGrant_35 rfl (lv_at hl 0 rfl) ?_
      refine cQv (rV (As := [_, _, _]) ⟨hx, hb, hml, hown, hts⟩ hw (k_X1_put l (by decide) (by decide) h1 h2 hn (ix q 4) (by omega)) (cv_X1_put hts tw_749 rfl rfl ⟨Nat.le_of_ble_eq_true rfl, Nat.le_of_ble_eq_true rfl⟩) (by decide) h1 rfl rfl hl.1 rfl (by first | exact Nat.le_of_ble_eq_true rfl | decide) dX4_readGrant_36 ⟨Nat.zero_le _, Nat.zero_le _⟩) hw hS (fun w1 H locs hp36 hw hS => ?_)
      have k1_1 : w1 12 = .inr (7, [.ref (gad G 13), .ref (gad G 14), .ref (gad G 15), .int (nI kn)]) := by rw [hp36]; exact vu_e (by decide) k1
      have k2_1 : w1 13 = .inl (gI G, 121, .inl kk) := by rw [hp36]; exact vu_e (by decide) k2
      have k3_1 : w1 14 = .inl (gI G, 121, .inl ks) := by rw [hp36]; exact vu_e (by decide) k3
      have k4_1 : w1 15 = .inl (gI G, 121, .inl kv) := by rw [hp36]; exact vu_e (by decide) k4
      have r1_1 : w1 11 = .inr (3, [.ref (gad G 1), .ref (gad G 12), .int (nI (lk)), .int (nI q)]) := by rw [hp36]; exact vu_e (by decide) r1
      have h1_1 : w1 1 = .inr (0, [.ref (gad G 2), .int (nI n)]) := by rw [hp36]; exact vu_e (by decide) h1
      have h2_1 : w1 2 = .inl (gI G, 132, .inl (upd f (q * 11 + 4) (0))) := by rw [hp36]; exact vu_s
      refine lv_aload_n hx hb dX4_readGrant_39 rfl (lv_at hl 1 rfl) ?_
      refine lv_dup hx hb dX4_readGrant_40 rfl ?_
      refine w_get (C := RX4) (T := TX4) (N := 4) 2 hx hb hts inX4 hown hw (by decide) r1_1 rfl (by decide) (hts _ tw_111) rfl dX4_readGrant_41 ?_
      refine lv_iconst (v := 1) hx hb dX4_readGrant_44 (by decide) ?_
      refine lv_iadd hx hb dX4_readGrant_45 ?_
      refine tp (y := nI (lk + 1)) (nI_1 _) ?_
      refine w_put (C := RX4) (T := TX4) (N := 4) (v := .int (nI (lk + 1))) 2 tyX4 hx hb hts inX4 tyX4_ok nmX4 hown hw hX hS (by decide) r1_1 rfl (by decide) (hts _ tw_111) rfl rfl (rfl) (rfl) (Nat.le_of_ble_eq_true rfl) dX4_readGrant_46 (fun H locs hw hS => ?_)
      obtain ⟨w3, ew3⟩ : ∃ wz9 : Nat → va_E, wz9 = va_up w1 11 (.inr (3, [.ref (gad G 1), .ref (gad G 12), .int (nI (lk + 1)), .int (nI q)])) := ⟨_, rfl⟩
      have hw : Hw G w3 s H := by rw [ew3]; exact hw
      have k1_3 : w3 12 = .inr (7, [.ref (gad G 13), .ref (gad G 14), .ref (gad G 15), .int (nI kn)]) := by rw [ew3]; exact vu_e (by decide) k1_1
      have k2_3 : w3 13 = .inl (gI G, 121, .inl kk) := by rw [ew3]; exact vu_e (by decide) k2_1
      have k3_3 : w3 14 = .inl (gI G, 121, .inl ks) := by rw [ew3]; exact vu_e (by decide) k3_1
      have k4_3 : w3 15 = .inl (gI G, 121, .inl kv) := by rw [ew3]; exact vu_e (by decide) k4_1
      have r1_3 : w3 11 = .inr (3, [.ref (gad G 1), .ref (gad G 12), .int (nI (lk + 1)), .int (nI q)]) := by rw [ew3]; exact vu_s
      have h1_3 : w3 1 = .inr (0, [.ref (gad G 2), .int (nI n)]) := by rw [ew3]; exact vu_e (by decide) h1_1
      have h2_3 : w3 2 = .inl (gI G, 132, .inl (upd f (q * 11 + 4) (0))) := by rw [ew3]; exact vu_e (by decide) h2_1
      have hlk1 : lk + 1 < kn := hE lk hlk (isW_ne c7)
      refine lv_iload_n hx hb dX4_readGrant_49 rfl (lv_at hl 0 rfl) ?_
      refine lv_iconst (v := 3) hx hb dX4_readGrant_50 (by decide) ?_
      refine lv_icmp_ne (tgt := 56) hx hb dX4_readGrant_51 (by decide) (fun c51 => ?_) (fun q => absurd q (by decide))
      refine lv_iload_n hx hb dX4_readGrant_56 rfl (lv_at hl 0 rfl) ?_
      refine cSe (rST (As := [_]) ⟨hx, hb, hml, hown, hts⟩ (k_X1_grantNeedsTrait l ) (cv_X1_grantNeedsTrait hts tw_762 rfl rfl ⟨Nat.le_of_ble_eq_true rfl, Nat.le_of_ble_eq_true rfl⟩) rfl hl.1 rfl (by first | exact Nat.le_of_ble_eq_true rfl | decide) dX4_readGrant_57 ⟨Nat.zero_le _, Nat.zero_le _⟩) ?_
      refine zb_eq (tgt := 73) hx hb dX4_readGrant_60 (by decide) (fun c60 => ?_) (fun q => Bool.noConfusion ((rfl).symm.trans q))
      refine lv_aload_n hx hb dX4_readGrant_73 rfl (lv_at hl 1 rfl) ?_
      refine lv_bipush (v := 6) hx hb dX4_readGrant_74 (by decide) ?_
      refine lv_iconst (v := 0) hx hb dX4_readGrant_76 (by decide) ?_
      refine lv_sipush (v := 999) hx hb dX4_readGrant_77 (by decide) ?_
      refine cQi (rV (As := [_, _, _]) ⟨hx, hb, hml, hown, hts⟩ hw (k_X4_takeNumber l k1_3 k2_3 k3_3 k4_3 hkn r1_3 h1_3 h2_3 hT hE hlk1 hn hq (fd := 6) (by omega)) (cv_X4_takeNumber hts tw_750 rfl rfl ⟨Nat.le_of_ble_eq_true rfl, Nat.le_of_ble_eq_true rfl⟩) (by decide) r1_3 rfl rfl hl.1 rfl (by first | exact Nat.le_of_ble_eq_true rfl | decide) dX4_readGrant_80 ⟨Nat.zero_le _, Nat.zero_le _⟩) hw hS (fun r80 w4 H locs hp80 hw hS => ?_)
      obtain ⟨b80, kz80, f80, hX80, hl80, rfl, hp80⟩ := hp80
      have k1_4 : w4 12 = .inr (7, [.ref (gad G 13), .ref (gad G 14), .ref (gad G 15), .int (nI kn)]) := by rw [hp80]; exact D2_o (by decide) (by decide) k1_3
      have k2_4 : w4 13 = .inl (gI G, 121, .inl kk) := by rw [hp80]; exact D2_o (by decide) (by decide) k2_3
      have k3_4 : w4 14 = .inl (gI G, 121, .inl ks) := by rw [hp80]; exact D2_o (by decide) (by decide) k3_3
      have k4_4 : w4 15 = .inl (gI G, 121, .inl kv) := by rw [hp80]; exact D2_o (by decide) (by decide) k4_3
      have r1_4 : w4 11 = .inr (3, [.ref (gad G 1), .ref (gad G 12), .int (nI (kz80)), .int (nI q)]) := by rw [hp80]; exact D2_j
      have h1_4 : w4 1 = .inr (0, [.ref (gad G 2), .int (nI n)]) := by rw [hp80]; exact D2_o (by decide) (by decide) h1_3
      have h2_4 : w4 2 = .inl (gI G, 132, .inl f80) := by rw [hp80]; exact D2_i (by decide)
      refine zb_ne (tgt := 88) hx hb dX4_readGrant_83 (by decide) (fun c83 => ?_) (fun c83 => ?_)
      · skip
        refine lv_iload_n hx hb dX4_readGrant_88 rfl (lv_at hl 0 rfl) ?_
        refine cSe (rST (As := [_]) ⟨hx, hb, hml, hown, hts⟩ (k_X1_mostPart l ) (cv_X1_mostPart hts tw_763 rfl rfl ⟨Nat.le_of_ble_eq_true rfl, Nat.le_of_ble_eq_true rfl⟩) rfl hl.1 rfl (by first | exact Nat.le_of_ble_eq_true rfl | decide) dX4_readGrant_89 ⟨Nat.zero_le _, Nat.zero_le _⟩) ?_
        refine lv_if_eq (tgt := 112) hx hb dX4_readGrant_92 (by decide) (fun c92 => ?_) (fun q => absurd (rfl) q)
        skip
        refine lv_iconst (v := 1) hx hb dX4_readGrant_112 (by decide) ?_
        refine lv_goto (tgt := 117) hx hb dX4_readGrant_113 (by decide) ?_
        exact re_Q hx hb hr hlocks (rfl) hw hS dX4_readGrant_117 (⟨true, kz80, f80, by rw [rGrant, if_pos c7, hsv, rGr_0, bnd_t hX80 c83], hl80, rfl, by rw [hp80, ew3, hp36]; first | done | (rw [hc]; simp only [r1p, r2p, r3p, r4p, r5p])⟩)
      · refine lv_iconst (v := 0) hx hb dX4_readGrant_86 (by decide) ?_
        exact re_Q hx hb hr hlocks (rfl) hw hS dX4_readGrant_87 (⟨false, kz80, f80, by rw [rGrant, if_pos c7, hsv, rGr_0, bnd_f hX80 c83], hl80, rfl, by rw [hp80, ew3, hp36]; first | done | (rw [hc]; simp only [r1p, r2p, r3p, r4p, r5p])⟩)
    · refine tp (y := 1) hsv ?_
      refine lv_istore_n (lv' := [(1, _), (0, _)]) hx hb dX4_readGrant_25 rfl hl (by decide) rfl (fun ls hl => ?_)
      refine lv_aload_n hx hb dX4_readGrant_26 rfl (lv_at hl 1 rfl) ?_
      refine w_get (C := RX4) (T := TX4) (N := 4) 0 hx hb hts inX4 hown hw (by decide) r1 rfl (by decide) (hts _ tw_109) rfl dX4_readGrant_27 ?_
      refine lv_aload_n hx hb dX4_readGrant_30 rfl (lv_at hl 1 rfl) ?_
      refine w_get (C := RX4) (T := TX4) (N := 4) 3 hx hb hts inX4 hown hw (by decide) r1 rfl (by decide) (hts _ tw_112) rfl dX4_readGrant_31 ?_
      refine lv_iconst (v := 4) hx hb dX4_readGrant_34 (by decide) ?_
      refine lv_iload_n hx hb dX4_readGrant_35 rfl (lv_at hl 0 rfl) ?_
      refine cQv (rV (As := [_, _, _]) ⟨hx, hb, hml, hown, hts⟩ hw (k_X1_put l (by decide) (by decide) h1 h2 hn (ix q 4) (by omega)) (cv_X1_put hts tw_749 rfl rfl ⟨Nat.le_of_ble_eq_true rfl, Nat.le_of_ble_eq_true rfl⟩) (by decide) h1 rfl rfl hl.1 rfl (by first | exact Nat.le_of_ble_eq_true rfl | decide) dX4_readGrant_36 ⟨Nat.zero_le _, Nat.zero_le _⟩) hw hS (fun w5 H locs hp36 hw hS => ?_)
      have k1_5 : w5 12 = .inr (7, [.ref (gad G 13), .ref (gad G 14), .ref (gad G 15), .int (nI kn)]) := by rw [hp36]; exact vu_e (by decide) k1
      have k2_5 : w5 13 = .inl (gI G, 121, .inl kk) := by rw [hp36]; exact vu_e (by decide) k2
      have k3_5 : w5 14 = .inl (gI G, 121, .inl ks) := by rw [hp36]; exact vu_e (by decide) k3
      have k4_5 : w5 15 = .inl (gI G, 121, .inl kv) := by rw [hp36]; exact vu_e (by decide) k4
      have r1_5 : w5 11 = .inr (3, [.ref (gad G 1), .ref (gad G 12), .int (nI (lk)), .int (nI q)]) := by rw [hp36]; exact vu_e (by decide) r1
      have h1_5 : w5 1 = .inr (0, [.ref (gad G 2), .int (nI n)]) := by rw [hp36]; exact vu_e (by decide) h1
      have h2_5 : w5 2 = .inl (gI G, 132, .inl (upd f (q * 11 + 4) (1))) := by rw [hp36]; exact vu_s
      refine lv_aload_n hx hb dX4_readGrant_39 rfl (lv_at hl 1 rfl) ?_
      refine lv_dup hx hb dX4_readGrant_40 rfl ?_
      refine w_get (C := RX4) (T := TX4) (N := 4) 2 hx hb hts inX4 hown hw (by decide) r1_5 rfl (by decide) (hts _ tw_111) rfl dX4_readGrant_41 ?_
      refine lv_iconst (v := 1) hx hb dX4_readGrant_44 (by decide) ?_
      refine lv_iadd hx hb dX4_readGrant_45 ?_
      refine tp (y := nI (lk + 1)) (nI_1 _) ?_
      refine w_put (C := RX4) (T := TX4) (N := 4) (v := .int (nI (lk + 1))) 2 tyX4 hx hb hts inX4 tyX4_ok nmX4 hown hw hX hS (by decide) r1_5 rfl (by decide) (hts _ tw_111) rfl rfl (rfl) (rfl) (Nat.le_of_ble_eq_true rfl) dX4_readGrant_46 (fun H locs hw hS => ?_)
      obtain ⟨w7, ew7⟩ : ∃ wz9 : Nat → va_E, wz9 = va_up w5 11 (.inr (3, [.ref (gad G 1), .ref (gad G 12), .int (nI (lk + 1)), .int (nI q)])) := ⟨_, rfl⟩
      have hw : Hw G w7 s H := by rw [ew7]; exact hw
      have k1_7 : w7 12 = .inr (7, [.ref (gad G 13), .ref (gad G 14), .ref (gad G 15), .int (nI kn)]) := by rw [ew7]; exact vu_e (by decide) k1_5
      have k2_7 : w7 13 = .inl (gI G, 121, .inl kk) := by rw [ew7]; exact vu_e (by decide) k2_5
      have k3_7 : w7 14 = .inl (gI G, 121, .inl ks) := by rw [ew7]; exact vu_e (by decide) k3_5
      have k4_7 : w7 15 = .inl (gI G, 121, .inl kv) := by rw [ew7]; exact vu_e (by decide) k4_5
      have r1_7 : w7 11 = .inr (3, [.ref (gad G 1), .ref (gad G 12), .int (nI (lk + 1)), .int (nI q)]) := by rw [ew7]; exact vu_s
      have h1_7 : w7 1 = .inr (0, [.ref (gad G 2), .int (nI n)]) := by rw [ew7]; exact vu_e (by decide) h1_5
      have h2_7 : w7 2 = .inl (gI G, 132, .inl (upd f (q * 11 + 4) (1))) := by rw [ew7]; exact vu_e (by decide) h2_5
      have hlk1 : lk + 1 < kn := hE lk hlk (isW_ne c7)
      refine lv_iload_n hx hb dX4_readGrant_49 rfl (lv_at hl 0 rfl) ?_
      refine lv_iconst (v := 3) hx hb dX4_readGrant_50 (by decide) ?_
      refine lv_icmp_ne (tgt := 56) hx hb dX4_readGrant_51 (by decide) (fun c51 => ?_) (fun q => absurd q (by decide))
      refine lv_iload_n hx hb dX4_readGrant_56 rfl (lv_at hl 0 rfl) ?_
      refine cSe (rST (As := [_]) ⟨hx, hb, hml, hown, hts⟩ (k_X1_grantNeedsTrait l ) (cv_X1_grantNeedsTrait hts tw_762 rfl rfl ⟨Nat.le_of_ble_eq_true rfl, Nat.le_of_ble_eq_true rfl⟩) rfl hl.1 rfl (by first | exact Nat.le_of_ble_eq_true rfl | decide) dX4_readGrant_57 ⟨Nat.zero_le _, Nat.zero_le _⟩) ?_
      refine zb_eq (tgt := 73) hx hb dX4_readGrant_60 (by decide) (fun q => Bool.noConfusion ((rfl).symm.trans q)) (fun c60 => ?_)
      refine lv_aload_n hx hb dX4_readGrant_63 rfl (lv_at hl 1 rfl) ?_
      refine lv_iconst (v := 5) hx hb dX4_readGrant_64 (by decide) ?_
      refine cQi (rV (As := [_]) ⟨hx, hb, hml, hown, hts⟩ hw (k_X4_takeTrait l k1_7 k2_7 k3_7 k4_7 hkn r1_7 h1_7 h2_7 hT hE hlk1 hn hq (fd := 5) (by omega)) (cv_X4_takeTrait hts tw_754 rfl rfl ⟨Nat.le_of_ble_eq_true rfl, Nat.le_of_ble_eq_true rfl⟩) (by decide) r1_7 rfl rfl hl.1 rfl (by first | exact Nat.le_of_ble_eq_true rfl | decide) dX4_readGrant_65 ⟨Nat.zero_le _, Nat.zero_le _⟩) hw hS (fun r65 w8 H locs hp65 hw hS => ?_)
      obtain ⟨b65, kz65, f65, hX65, hl65, rfl, hp65⟩ := hp65
      have k1_8 : w8 12 = .inr (7, [.ref (gad G 13), .ref (gad G 14), .ref (gad G 15), .int (nI kn)]) := by rw [hp65]; exact D2_o (by decide) (by decide) k1_7
      have k2_8 : w8 13 = .inl (gI G, 121, .inl kk) := by rw [hp65]; exact D2_o (by decide) (by decide) k2_7
      have k3_8 : w8 14 = .inl (gI G, 121, .inl ks) := by rw [hp65]; exact D2_o (by decide) (by decide) k3_7
      have k4_8 : w8 15 = .inl (gI G, 121, .inl kv) := by rw [hp65]; exact D2_o (by decide) (by decide) k4_7
      have r1_8 : w8 11 = .inr (3, [.ref (gad G 1), .ref (gad G 12), .int (nI (kz65)), .int (nI q)]) := by rw [hp65]; exact D2_j
      have h1_8 : w8 1 = .inr (0, [.ref (gad G 2), .int (nI n)]) := by rw [hp65]; exact D2_o (by decide) (by decide) h1_7
      have h2_8 : w8 2 = .inl (gI G, 132, .inl f65) := by rw [hp65]; exact D2_i (by decide)
      refine zb_ne (tgt := 73) hx hb dX4_readGrant_68 (by decide) (fun c68 => ?_) (fun c68 => ?_)
      · refine lv_aload_n hx hb dX4_readGrant_73 rfl (lv_at hl 1 rfl) ?_
        refine lv_bipush (v := 6) hx hb dX4_readGrant_74 (by decide) ?_
        refine lv_iconst (v := 0) hx hb dX4_readGrant_76 (by decide) ?_
        refine lv_sipush (v := 999) hx hb dX4_readGrant_77 (by decide) ?_
        refine cQi (rV (As := [_, _, _]) ⟨hx, hb, hml, hown, hts⟩ hw (k_X4_takeNumber l k1_8 k2_8 k3_8 k4_8 hkn r1_8 h1_8 h2_8 hT hE hl65 hn hq (fd := 6) (by omega)) (cv_X4_takeNumber hts tw_750 rfl rfl ⟨Nat.le_of_ble_eq_true rfl, Nat.le_of_ble_eq_true rfl⟩) (by decide) r1_8 rfl rfl hl.1 rfl (by first | exact Nat.le_of_ble_eq_true rfl | decide) dX4_readGrant_80 ⟨Nat.zero_le _, Nat.zero_le _⟩) hw hS (fun r80 w9 H locs hp80 hw hS => ?_)
        obtain ⟨b80, kz80, f80, hX80, hl80, rfl, hp80⟩ := hp80
        have k1_9 : w9 12 = .inr (7, [.ref (gad G 13), .ref (gad G 14), .ref (gad G 15), .int (nI kn)]) := by rw [hp80]; exact D2_o (by decide) (by decide) k1_8
        have k2_9 : w9 13 = .inl (gI G, 121, .inl kk) := by rw [hp80]; exact D2_o (by decide) (by decide) k2_8
        have k3_9 : w9 14 = .inl (gI G, 121, .inl ks) := by rw [hp80]; exact D2_o (by decide) (by decide) k3_8
        have k4_9 : w9 15 = .inl (gI G, 121, .inl kv) := by rw [hp80]; exact D2_o (by decide) (by decide) k4_8
        have r1_9 : w9 11 = .inr (3, [.ref (gad G 1), .ref (gad G 12), .int (nI (kz80)), .int (nI q)]) := by rw [hp80]; exact D2_j
        have h1_9 : w9 1 = .inr (0, [.ref (gad G 2), .int (nI n)]) := by rw [hp80]; exact D2_o (by decide) (by decide) h1_8
        have h2_9 : w9 2 = .inl (gI G, 132, .inl f80) := by rw [hp80]; exact D2_i (by decide)
        refine zb_ne (tgt := 88) hx hb dX4_readGrant_83 (by decide) (fun c83 => ?_) (fun c83 => ?_)
        · skip
          refine lv_iload_n hx hb dX4_readGrant_88 rfl (lv_at hl 0 rfl) ?_
          refine cSe (rST (As := [_]) ⟨hx, hb, hml, hown, hts⟩ (k_X1_mostPart l ) (cv_X1_mostPart hts tw_763 rfl rfl ⟨Nat.le_of_ble_eq_true rfl, Nat.le_of_ble_eq_true rfl⟩) rfl hl.1 rfl (by first | exact Nat.le_of_ble_eq_true rfl | decide) dX4_readGrant_89 ⟨Nat.zero_le _, Nat.zero_le _⟩) ?_
          refine lv_if_eq (tgt := 112) hx hb dX4_readGrant_92 (by decide) (fun q => absurd q (by decide)) (fun c92 => ?_)
          refine lv_aload_n hx hb dX4_readGrant_95 rfl (lv_at hl 1 rfl) ?_
          refine lv_bipush (v := 7) hx hb dX4_readGrant_96 (by decide) ?_
          refine lv_iload_n hx hb dX4_readGrant_98 rfl (lv_at hl 0 rfl) ?_
          refine cSe (rST (As := [_]) ⟨hx, hb, hml, hown, hts⟩ (k_X1_leastPart l ) (cv_X1_leastPart hts tw_764 rfl rfl ⟨Nat.le_of_ble_eq_true rfl, Nat.le_of_ble_eq_true rfl⟩) rfl hl.1 rfl (by first | exact Nat.le_of_ble_eq_true rfl | decide) dX4_readGrant_99 ⟨Nat.zero_le _, Nat.zero_le _⟩) ?_
          refine tp (y := 1) rfl ?_
          refine lv_iload_n hx hb dX4_readGrant_102 rfl (lv_at hl 0 rfl) ?_
          refine cSe (rST (As := [_]) ⟨hx, hb, hml, hown, hts⟩ (k_X1_mostPart l ) (cv_X1_mostPart hts tw_763 rfl rfl ⟨Nat.le_of_ble_eq_true rfl, Nat.le_of_ble_eq_true rfl⟩) rfl hl.1 rfl (by first | exact Nat.le_of_ble_eq_true rfl | decide) dX4_readGrant_103 ⟨Nat.zero_le _, Nat.zero_le _⟩) ?_
          refine tp (y := 99) rfl ?_
          refine cQi (rV (As := [_, _, _]) ⟨hx, hb, hml, hown, hts⟩ hw (k_X4_takeNumber l k1_9 k2_9 k3_9 k4_9 hkn r1_9 h1_9 h2_9 hT hE hl80 hn hq (fd := 7) (by omega)) (cv_X4_takeNumber hts tw_750 rfl rfl ⟨Nat.le_of_ble_eq_true rfl, Nat.le_of_ble_eq_true rfl⟩) (by decide) r1_9 rfl rfl hl.1 rfl (by first | exact Nat.le_of_ble_eq_true rfl | decide) dX4_readGrant_106 ⟨Nat.zero_le _, Nat.zero_le _⟩) hw hS (fun r106 w10 H locs hp106 hw hS => ?_)
          obtain ⟨b106, kz106, f106, hX106, hl106, rfl, hp106⟩ := hp106
          have k1_10 : w10 12 = .inr (7, [.ref (gad G 13), .ref (gad G 14), .ref (gad G 15), .int (nI kn)]) := by rw [hp106]; exact D2_o (by decide) (by decide) k1_9
          have k2_10 : w10 13 = .inl (gI G, 121, .inl kk) := by rw [hp106]; exact D2_o (by decide) (by decide) k2_9
          have k3_10 : w10 14 = .inl (gI G, 121, .inl ks) := by rw [hp106]; exact D2_o (by decide) (by decide) k3_9
          have k4_10 : w10 15 = .inl (gI G, 121, .inl kv) := by rw [hp106]; exact D2_o (by decide) (by decide) k4_9
          have r1_10 : w10 11 = .inr (3, [.ref (gad G 1), .ref (gad G 12), .int (nI (kz106)), .int (nI q)]) := by rw [hp106]; exact D2_j
          have h1_10 : w10 1 = .inr (0, [.ref (gad G 2), .int (nI n)]) := by rw [hp106]; exact D2_o (by decide) (by decide) h1_9
          have h2_10 : w10 2 = .inl (gI G, 132, .inl f106) := by rw [hp106]; exact D2_i (by decide)
          refine zb_eq (tgt := 116) hx hb dX4_readGrant_109 (by decide) (fun c109 => ?_) (fun c109 => ?_)
          · refine lv_iconst (v := 0) hx hb dX4_readGrant_116 (by decide) ?_
            exact re_Q hx hb hr hlocks (rfl) hw hS dX4_readGrant_117 (⟨false, kz106, f106, by rw [rGrant, if_pos c7, hsv, rGr_1, bnd_t hX65 c68, bnd_t hX80 c83, hX106, c109], hl106, rfl, by rw [hp106, hp80, hp65, ew7, hp36]; first | done | (rw [hc]; simp only [r1p, r2p, r3p, r4p, r5p])⟩)
          · skip
            refine lv_iconst (v := 1) hx hb dX4_readGrant_112 (by decide) ?_
            refine lv_goto (tgt := 117) hx hb dX4_readGrant_113 (by decide) ?_
            exact re_Q hx hb hr hlocks (rfl) hw hS dX4_readGrant_117 (⟨true, kz106, f106, by rw [rGrant, if_pos c7, hsv, rGr_1, bnd_t hX65 c68, bnd_t hX80 c83, hX106, c109], hl106, rfl, by rw [hp106, hp80, hp65, ew7, hp36]; first | done | (rw [hc]; simp only [r1p, r2p, r3p, r4p, r5p])⟩)
        · refine lv_iconst (v := 0) hx hb dX4_readGrant_86 (by decide) ?_
          exact re_Q hx hb hr hlocks (rfl) hw hS dX4_readGrant_87 (⟨false, kz80, f80, by rw [rGrant, if_pos c7, hsv, rGr_1, bnd_t hX65 c68, bnd_f hX80 c83], hl80, rfl, by rw [hp80, hp65, ew7, hp36]; first | done | (rw [hc]; simp only [r1p, r2p, r3p, r4p, r5p])⟩)
      · refine lv_iconst (v := 0) hx hb dX4_readGrant_71 (by decide) ?_
        exact re_Q hx hb hr hlocks (rfl) hw hS dX4_readGrant_72 (⟨false, kz65, f65, by rw [rGrant, if_pos c7, hsv, rGr_1, bnd_f hX65 c68], hl65, rfl, by rw [hp65, ew7, hp36]; first | done | (rw [hc]; simp only [r1p, r2p, r3p, r4p, r5p])⟩)
    · refine tp (y := 2) hsv ?_
      refine lv_istore_n (lv' := [(1, _), (0, _)]) hx hb dX4_readGrant_25 rfl hl (by decide) rfl (fun ls hl => ?_)
      refine lv_aload_n hx hb dX4_readGrant_26 rfl (lv_at hl 1 rfl) ?_
      refine w_get (C := RX4) (T := TX4) (N := 4) 0 hx hb hts inX4 hown hw (by decide) r1 rfl (by decide) (hts _ tw_109) rfl dX4_readGrant_27 ?_
      refine lv_aload_n hx hb dX4_readGrant_30 rfl (lv_at hl 1 rfl) ?_
      refine w_get (C := RX4) (T := TX4) (N := 4) 3 hx hb hts inX4 hown hw (by decide) r1 rfl (by decide) (hts _ tw_112) rfl dX4_readGrant_31 ?_
      refine lv_iconst (v := 4) hx hb dX4_readGrant_34 (by decide) ?_
      refine lv_iload_n hx hb dX4_readGrant_35 rfl (lv_at hl 0 rfl) ?_
      refine cQv (rV (As := [_, _, _]) ⟨hx, hb, hml, hown, hts⟩ hw (k_X1_put l (by decide) (by decide) h1 h2 hn (ix q 4) (by omega)) (cv_X1_put hts tw_749 rfl rfl ⟨Nat.le_of_ble_eq_true rfl, Nat.le_of_ble_eq_true rfl⟩) (by decide) h1 rfl rfl hl.1 rfl (by first | exact Nat.le_of_ble_eq_true rfl | decide) dX4_readGrant_36 ⟨Nat.zero_le _, Nat.zero_le _⟩) hw hS (fun w11 H locs hp36 hw hS => ?_)
      have k1_11 : w11 12 = .inr (7, [.ref (gad G 13), .ref (gad G 14), .ref (gad G 15), .int (nI kn)]) := by rw [hp36]; exact vu_e (by decide) k1
      have k2_11 : w11 13 = .inl (gI G, 121, .inl kk) := by rw [hp36]; exact vu_e (by decide) k2
      have k3_11 : w11 14 = .inl (gI G, 121, .inl ks) := by rw [hp36]; exact vu_e (by decide) k3
      have k4_11 : w11 15 = .inl (gI G, 121, .inl kv) := by rw [hp36]; exact vu_e (by decide) k4
      have r1_11 : w11 11 = .inr (3, [.ref (gad G 1), .ref (gad G 12), .int (nI (lk)), .int (nI q)]) := by rw [hp36]; exact vu_e (by decide) r1
      have h1_11 : w11 1 = .inr (0, [.ref (gad G 2), .int (nI n)]) := by rw [hp36]; exact vu_e (by decide) h1
      have h2_11 : w11 2 = .inl (gI G, 132, .inl (upd f (q * 11 + 4) (2))) := by rw [hp36]; exact vu_s
      refine lv_aload_n hx hb dX4_readGrant_39 rfl (lv_at hl 1 rfl) ?_
      refine lv_dup hx hb dX4_readGrant_40 rfl ?_
      refine w_get (C := RX4) (T := TX4) (N := 4) 2 hx hb hts inX4 hown hw (by decide) r1_11 rfl (by decide) (hts _ tw_111) rfl dX4_readGrant_41 ?_
      refine lv_iconst (v := 1) hx hb dX4_readGrant_44 (by decide) ?_
      refine lv_iadd hx hb dX4_readGrant_45 ?_
      refine tp (y := nI (lk + 1)) (nI_1 _) ?_
      refine w_put (C := RX4) (T := TX4) (N := 4) (v := .int (nI (lk + 1))) 2 tyX4 hx hb hts inX4 tyX4_ok nmX4 hown hw hX hS (by decide) r1_11 rfl (by decide) (hts _ tw_111) rfl rfl (rfl) (rfl) (Nat.le_of_ble_eq_true rfl) dX4_readGrant_46 (fun H locs hw hS => ?_)
      obtain ⟨w13, ew13⟩ : ∃ wz9 : Nat → va_E, wz9 = va_up w11 11 (.inr (3, [.ref (gad G 1), .ref (gad G 12), .int (nI (lk + 1)), .int (nI q)])) := ⟨_, rfl⟩
      have hw : Hw G w13 s H := by rw [ew13]; exact hw
      have k1_13 : w13 12 = .inr (7, [.ref (gad G 13), .ref (gad G 14), .ref (gad G 15), .int (nI kn)]) := by rw [ew13]; exact vu_e (by decide) k1_11
      have k2_13 : w13 13 = .inl (gI G, 121, .inl kk) := by rw [ew13]; exact vu_e (by decide) k2_11
      have k3_13 : w13 14 = .inl (gI G, 121, .inl ks) := by rw [ew13]; exact vu_e (by decide) k3_11
      have k4_13 : w13 15 = .inl (gI G, 121, .inl kv) := by rw [ew13]; exact vu_e (by decide) k4_11
      have r1_13 : w13 11 = .inr (3, [.ref (gad G 1), .ref (gad G 12), .int (nI (lk + 1)), .int (nI q)]) := by rw [ew13]; exact vu_s
      have h1_13 : w13 1 = .inr (0, [.ref (gad G 2), .int (nI n)]) := by rw [ew13]; exact vu_e (by decide) h1_11
      have h2_13 : w13 2 = .inl (gI G, 132, .inl (upd f (q * 11 + 4) (2))) := by rw [ew13]; exact vu_e (by decide) h2_11
      have hlk1 : lk + 1 < kn := hE lk hlk (isW_ne c7)
      refine lv_iload_n hx hb dX4_readGrant_49 rfl (lv_at hl 0 rfl) ?_
      refine lv_iconst (v := 3) hx hb dX4_readGrant_50 (by decide) ?_
      refine lv_icmp_ne (tgt := 56) hx hb dX4_readGrant_51 (by decide) (fun c51 => ?_) (fun q => absurd q (by decide))
      refine lv_iload_n hx hb dX4_readGrant_56 rfl (lv_at hl 0 rfl) ?_
      refine cSe (rST (As := [_]) ⟨hx, hb, hml, hown, hts⟩ (k_X1_grantNeedsTrait l ) (cv_X1_grantNeedsTrait hts tw_762 rfl rfl ⟨Nat.le_of_ble_eq_true rfl, Nat.le_of_ble_eq_true rfl⟩) rfl hl.1 rfl (by first | exact Nat.le_of_ble_eq_true rfl | decide) dX4_readGrant_57 ⟨Nat.zero_le _, Nat.zero_le _⟩) ?_
      refine zb_eq (tgt := 73) hx hb dX4_readGrant_60 (by decide) (fun q => Bool.noConfusion ((rfl).symm.trans q)) (fun c60 => ?_)
      refine lv_aload_n hx hb dX4_readGrant_63 rfl (lv_at hl 1 rfl) ?_
      refine lv_iconst (v := 5) hx hb dX4_readGrant_64 (by decide) ?_
      refine cQi (rV (As := [_]) ⟨hx, hb, hml, hown, hts⟩ hw (k_X4_takeTrait l k1_13 k2_13 k3_13 k4_13 hkn r1_13 h1_13 h2_13 hT hE hlk1 hn hq (fd := 5) (by omega)) (cv_X4_takeTrait hts tw_754 rfl rfl ⟨Nat.le_of_ble_eq_true rfl, Nat.le_of_ble_eq_true rfl⟩) (by decide) r1_13 rfl rfl hl.1 rfl (by first | exact Nat.le_of_ble_eq_true rfl | decide) dX4_readGrant_65 ⟨Nat.zero_le _, Nat.zero_le _⟩) hw hS (fun r65 w14 H locs hp65 hw hS => ?_)
      obtain ⟨b65, kz65, f65, hX65, hl65, rfl, hp65⟩ := hp65
      have k1_14 : w14 12 = .inr (7, [.ref (gad G 13), .ref (gad G 14), .ref (gad G 15), .int (nI kn)]) := by rw [hp65]; exact D2_o (by decide) (by decide) k1_13
      have k2_14 : w14 13 = .inl (gI G, 121, .inl kk) := by rw [hp65]; exact D2_o (by decide) (by decide) k2_13
      have k3_14 : w14 14 = .inl (gI G, 121, .inl ks) := by rw [hp65]; exact D2_o (by decide) (by decide) k3_13
      have k4_14 : w14 15 = .inl (gI G, 121, .inl kv) := by rw [hp65]; exact D2_o (by decide) (by decide) k4_13
      have r1_14 : w14 11 = .inr (3, [.ref (gad G 1), .ref (gad G 12), .int (nI (kz65)), .int (nI q)]) := by rw [hp65]; exact D2_j
      have h1_14 : w14 1 = .inr (0, [.ref (gad G 2), .int (nI n)]) := by rw [hp65]; exact D2_o (by decide) (by decide) h1_13
      have h2_14 : w14 2 = .inl (gI G, 132, .inl f65) := by rw [hp65]; exact D2_i (by decide)
      refine zb_ne (tgt := 73) hx hb dX4_readGrant_68 (by decide) (fun c68 => ?_) (fun c68 => ?_)
      · refine lv_aload_n hx hb dX4_readGrant_73 rfl (lv_at hl 1 rfl) ?_
        refine lv_bipush (v := 6) hx hb dX4_readGrant_74 (by decide) ?_
        refine lv_iconst (v := 0) hx hb dX4_readGrant_76 (by decide) ?_
        refine lv_sipush (v := 999) hx hb dX4_readGrant_77 (by decide) ?_
        refine cQi (rV (As := [_, _, _]) ⟨hx, hb, hml, hown, hts⟩ hw (k_X4_takeNumber l k1_14 k2_14 k3_14 k4_14 hkn r1_14 h1_14 h2_14 hT hE hl65 hn hq (fd := 6) (by omega)) (cv_X4_takeNumber hts tw_750 rfl rfl ⟨Nat.le_of_ble_eq_true rfl, Nat.le_of_ble_eq_true rfl⟩) (by decide) r1_14 rfl rfl hl.1 rfl (by first | exact Nat.le_of_ble_eq_true rfl | decide) dX4_readGrant_80 ⟨Nat.zero_le _, Nat.zero_le _⟩) hw hS (fun r80 w15 H locs hp80 hw hS => ?_)
        obtain ⟨b80, kz80, f80, hX80, hl80, rfl, hp80⟩ := hp80
        have k1_15 : w15 12 = .inr (7, [.ref (gad G 13), .ref (gad G 14), .ref (gad G 15), .int (nI kn)]) := by rw [hp80]; exact D2_o (by decide) (by decide) k1_14
        have k2_15 : w15 13 = .inl (gI G, 121, .inl kk) := by rw [hp80]; exact D2_o (by decide) (by decide) k2_14
        have k3_15 : w15 14 = .inl (gI G, 121, .inl ks) := by rw [hp80]; exact D2_o (by decide) (by decide) k3_14
        have k4_15 : w15 15 = .inl (gI G, 121, .inl kv) := by rw [hp80]; exact D2_o (by decide) (by decide) k4_14
        have r1_15 : w15 11 = .inr (3, [.ref (gad G 1), .ref (gad G 12), .int (nI (kz80)), .int (nI q)]) := by rw [hp80]; exact D2_j
        have h1_15 : w15 1 = .inr (0, [.ref (gad G 2), .int (nI n)]) := by rw [hp80]; exact D2_o (by decide) (by decide) h1_14
        have h2_15 : w15 2 = .inl (gI G, 132, .inl f80) := by rw [hp80]; exact D2_i (by decide)
        refine zb_ne (tgt := 88) hx hb dX4_readGrant_83 (by decide) (fun c83 => ?_) (fun c83 => ?_)
        · skip
          refine lv_iload_n hx hb dX4_readGrant_88 rfl (lv_at hl 0 rfl) ?_
          refine cSe (rST (As := [_]) ⟨hx, hb, hml, hown, hts⟩ (k_X1_mostPart l ) (cv_X1_mostPart hts tw_763 rfl rfl ⟨Nat.le_of_ble_eq_true rfl, Nat.le_of_ble_eq_true rfl⟩) rfl hl.1 rfl (by first | exact Nat.le_of_ble_eq_true rfl | decide) dX4_readGrant_89 ⟨Nat.zero_le _, Nat.zero_le _⟩) ?_
          refine lv_if_eq (tgt := 112) hx hb dX4_readGrant_92 (by decide) (fun q => absurd q (by decide)) (fun c92 => ?_)
          refine lv_aload_n hx hb dX4_readGrant_95 rfl (lv_at hl 1 rfl) ?_
          refine lv_bipush (v := 7) hx hb dX4_readGrant_96 (by decide) ?_
          refine lv_iload_n hx hb dX4_readGrant_98 rfl (lv_at hl 0 rfl) ?_
          refine cSe (rST (As := [_]) ⟨hx, hb, hml, hown, hts⟩ (k_X1_leastPart l ) (cv_X1_leastPart hts tw_764 rfl rfl ⟨Nat.le_of_ble_eq_true rfl, Nat.le_of_ble_eq_true rfl⟩) rfl hl.1 rfl (by first | exact Nat.le_of_ble_eq_true rfl | decide) dX4_readGrant_99 ⟨Nat.zero_le _, Nat.zero_le _⟩) ?_
          refine tp (y := 0) rfl ?_
          refine lv_iload_n hx hb dX4_readGrant_102 rfl (lv_at hl 0 rfl) ?_
          refine cSe (rST (As := [_]) ⟨hx, hb, hml, hown, hts⟩ (k_X1_mostPart l ) (cv_X1_mostPart hts tw_763 rfl rfl ⟨Nat.le_of_ble_eq_true rfl, Nat.le_of_ble_eq_true rfl⟩) rfl hl.1 rfl (by first | exact Nat.le_of_ble_eq_true rfl | decide) dX4_readGrant_103 ⟨Nat.zero_le _, Nat.zero_le _⟩) ?_
          refine tp (y := 99) rfl ?_
          refine cQi (rV (As := [_, _, _]) ⟨hx, hb, hml, hown, hts⟩ hw (k_X4_takeNumber l k1_15 k2_15 k3_15 k4_15 hkn r1_15 h1_15 h2_15 hT hE hl80 hn hq (fd := 7) (by omega)) (cv_X4_takeNumber hts tw_750 rfl rfl ⟨Nat.le_of_ble_eq_true rfl, Nat.le_of_ble_eq_true rfl⟩) (by decide) r1_15 rfl rfl hl.1 rfl (by first | exact Nat.le_of_ble_eq_true rfl | decide) dX4_readGrant_106 ⟨Nat.zero_le _, Nat.zero_le _⟩) hw hS (fun r106 w16 H locs hp106 hw hS => ?_)
          obtain ⟨b106, kz106, f106, hX106, hl106, rfl, hp106⟩ := hp106
          have k1_16 : w16 12 = .inr (7, [.ref (gad G 13), .ref (gad G 14), .ref (gad G 15), .int (nI kn)]) := by rw [hp106]; exact D2_o (by decide) (by decide) k1_15
          have k2_16 : w16 13 = .inl (gI G, 121, .inl kk) := by rw [hp106]; exact D2_o (by decide) (by decide) k2_15
          have k3_16 : w16 14 = .inl (gI G, 121, .inl ks) := by rw [hp106]; exact D2_o (by decide) (by decide) k3_15
          have k4_16 : w16 15 = .inl (gI G, 121, .inl kv) := by rw [hp106]; exact D2_o (by decide) (by decide) k4_15
          have r1_16 : w16 11 = .inr (3, [.ref (gad G 1), .ref (gad G 12), .int (nI (kz106)), .int (nI q)]) := by rw [hp106]; exact D2_j
          have h1_16 : w16 1 = .inr (0, [.ref (gad G 2), .int (nI n)]) := by rw [hp106]; exact D2_o (by decide) (by decide) h1_15
          have h2_16 : w16 2 = .inl (gI G, 132, .inl f106) := by rw [hp106]; exact D2_i (by decide)
          refine zb_eq (tgt := 116) hx hb dX4_readGrant_109 (by decide) (fun c109 => ?_) (fun c109 => ?_)
          · refine lv_iconst (v := 0) hx hb dX4_readGrant_116 (by decide) ?_
            exact re_Q hx hb hr hlocks (rfl) hw hS dX4_readGrant_117 (⟨false, kz106, f106, by rw [rGrant, if_pos c7, hsv, rGr_2, bnd_t hX65 c68, bnd_t hX80 c83, hX106, c109], hl106, rfl, by rw [hp106, hp80, hp65, ew13, hp36]; first | done | (rw [hc]; simp only [r1p, r2p, r3p, r4p, r5p])⟩)
          · skip
            refine lv_iconst (v := 1) hx hb dX4_readGrant_112 (by decide) ?_
            refine lv_goto (tgt := 117) hx hb dX4_readGrant_113 (by decide) ?_
            exact re_Q hx hb hr hlocks (rfl) hw hS dX4_readGrant_117 (⟨true, kz106, f106, by rw [rGrant, if_pos c7, hsv, rGr_2, bnd_t hX65 c68, bnd_t hX80 c83, hX106, c109], hl106, rfl, by rw [hp106, hp80, hp65, ew13, hp36]; first | done | (rw [hc]; simp only [r1p, r2p, r3p, r4p, r5p])⟩)
        · refine lv_iconst (v := 0) hx hb dX4_readGrant_86 (by decide) ?_
          exact re_Q hx hb hr hlocks (rfl) hw hS dX4_readGrant_87 (⟨false, kz80, f80, by rw [rGrant, if_pos c7, hsv, rGr_2, bnd_t hX65 c68, bnd_f hX80 c83], hl80, rfl, by rw [hp80, hp65, ew13, hp36]; first | done | (rw [hc]; simp only [r1p, r2p, r3p, r4p, r5p])⟩)
      · refine lv_iconst (v := 0) hx hb dX4_readGrant_71 (by decide) ?_
        exact re_Q hx hb hr hlocks (rfl) hw hS dX4_readGrant_72 (⟨false, kz65, f65, by rw [rGrant, if_pos c7, hsv, rGr_2, bnd_f hX65 c68], hl65, rfl, by rw [hp65, ew13, hp36]; first | done | (rw [hc]; simp only [r1p, r2p, r3p, r4p, r5p])⟩)
    · refine tp (y := 3) hsv ?_
      refine lv_istore_n (lv' := [(1, _), (0, _)]) hx hb dX4_readGrant_25 rfl hl (by decide) rfl (fun ls hl => ?_)
      refine lv_aload_n hx hb dX4_readGrant_26 rfl (lv_at hl 1 rfl) ?_
      refine w_get (C := RX4) (T := TX4) (N := 4) 0 hx hb hts inX4 hown hw (by decide) r1 rfl (by decide) (hts _ tw_109) rfl dX4_readGrant_27 ?_
      refine lv_aload_n hx hb dX4_readGrant_30 rfl (lv_at hl 1 rfl) ?_
      refine w_get (C := RX4) (T := TX4) (N := 4) 3 hx hb hts inX4 hown hw (by decide) r1 rfl (by decide) (hts _ tw_112) rfl dX4_readGrant_31 ?_
      refine lv_iconst (v := 4) hx hb dX4_readGrant_34 (by decide) ?_
      refine lv_iload_n hx hb dX4_readGrant_35 rfl (lv_at hl 0 rfl) ?_
      refine cQv (rV (As := [_, _, _]) ⟨hx, hb, hml, hown, hts⟩ hw (k_X1_put l (by decide) (by decide) h1 h2 hn (ix q 4) (by omega)) (cv_X1_put hts tw_749 rfl rfl ⟨Nat.le_of_ble_eq_true rfl, Nat.le_of_ble_eq_true rfl⟩) (by decide) h1 rfl rfl hl.1 rfl (by first | exact Nat.le_of_ble_eq_true rfl | decide) dX4_readGrant_36 ⟨Nat.zero_le _, Nat.zero_le _⟩) hw hS (fun w17 H locs hp36 hw hS => ?_)
      have k1_17 : w17 12 = .inr (7, [.ref (gad G 13), .ref (gad G 14), .ref (gad G 15), .int (nI kn)]) := by rw [hp36]; exact vu_e (by decide) k1
      have k2_17 : w17 13 = .inl (gI G, 121, .inl kk) := by rw [hp36]; exact vu_e (by decide) k2
      have k3_17 : w17 14 = .inl (gI G, 121, .inl ks) := by rw [hp36]; exact vu_e (by decide) k3
      have k4_17 : w17 15 = .inl (gI G, 121, .inl kv) := by rw [hp36]; exact vu_e (by decide) k4
      have r1_17 : w17 11 = .inr (3, [.ref (gad G 1), .ref (gad G 12), .int (nI (lk)), .int (nI q)]) := by rw [hp36]; exact vu_e (by decide) r1
      have h1_17 : w17 1 = .inr (0, [.ref (gad G 2), .int (nI n)]) := by rw [hp36]; exact vu_e (by decide) h1
      have h2_17 : w17 2 = .inl (gI G, 132, .inl (upd f (q * 11 + 4) (3))) := by rw [hp36]; exact vu_s
      refine lv_aload_n hx hb dX4_readGrant_39 rfl (lv_at hl 1 rfl) ?_
      refine lv_dup hx hb dX4_readGrant_40 rfl ?_
      refine w_get (C := RX4) (T := TX4) (N := 4) 2 hx hb hts inX4 hown hw (by decide) r1_17 rfl (by decide) (hts _ tw_111) rfl dX4_readGrant_41 ?_
      refine lv_iconst (v := 1) hx hb dX4_readGrant_44 (by decide) ?_
      refine lv_iadd hx hb dX4_readGrant_45 ?_
      refine tp (y := nI (lk + 1)) (nI_1 _) ?_
      refine w_put (C := RX4) (T := TX4) (N := 4) (v := .int (nI (lk + 1))) 2 tyX4 hx hb hts inX4 tyX4_ok nmX4 hown hw hX hS (by decide) r1_17 rfl (by decide) (hts _ tw_111) rfl rfl (rfl) (rfl) (Nat.le_of_ble_eq_true rfl) dX4_readGrant_46 (fun H locs hw hS => ?_)
      obtain ⟨w19, ew19⟩ : ∃ wz9 : Nat → va_E, wz9 = va_up w17 11 (.inr (3, [.ref (gad G 1), .ref (gad G 12), .int (nI (lk + 1)), .int (nI q)])) := ⟨_, rfl⟩
      have hw : Hw G w19 s H := by rw [ew19]; exact hw
      have k1_19 : w19 12 = .inr (7, [.ref (gad G 13), .ref (gad G 14), .ref (gad G 15), .int (nI kn)]) := by rw [ew19]; exact vu_e (by decide) k1_17
      have k2_19 : w19 13 = .inl (gI G, 121, .inl kk) := by rw [ew19]; exact vu_e (by decide) k2_17
      have k3_19 : w19 14 = .inl (gI G, 121, .inl ks) := by rw [ew19]; exact vu_e (by decide) k3_17
      have k4_19 : w19 15 = .inl (gI G, 121, .inl kv) := by rw [ew19]; exact vu_e (by decide) k4_17
      have r1_19 : w19 11 = .inr (3, [.ref (gad G 1), .ref (gad G 12), .int (nI (lk + 1)), .int (nI q)]) := by rw [ew19]; exact vu_s
      have h1_19 : w19 1 = .inr (0, [.ref (gad G 2), .int (nI n)]) := by rw [ew19]; exact vu_e (by decide) h1_17
      have h2_19 : w19 2 = .inl (gI G, 132, .inl (upd f (q * 11 + 4) (3))) := by rw [ew19]; exact vu_e (by decide) h2_17
      have hlk1 : lk + 1 < kn := hE lk hlk (isW_ne c7)
      refine lv_iload_n hx hb dX4_readGrant_49 rfl (lv_at hl 0 rfl) ?_
      refine lv_iconst (v := 3) hx hb dX4_readGrant_50 (by decide) ?_
      refine lv_icmp_ne (tgt := 56) hx hb dX4_readGrant_51 (by decide) (fun q => absurd (rfl) q) (fun c51 => ?_)
      refine lv_iconst (v := 1) hx hb dX4_readGrant_54 (by decide) ?_
      exact re_Q hx hb hr hlocks (rfl) hw hS dX4_readGrant_55 (⟨true, lk + 1, (upd f (q * 11 + 4) (3)), by rw [rGrant, if_pos c7, hsv, rGr_3], hlk1, rfl, by rw [ew19, hp36]; first | done | (rw [hc]; simp only [r1p, r2p, r3p, r4p, r5p])⟩)
    · refine tp (y := 4) hsv ?_
      refine lv_istore_n (lv' := [(1, _), (0, _)]) hx hb dX4_readGrant_25 rfl hl (by decide) rfl (fun ls hl => ?_)
      refine lv_aload_n hx hb dX4_readGrant_26 rfl (lv_at hl 1 rfl) ?_
      refine w_get (C := RX4) (T := TX4) (N := 4) 0 hx hb hts inX4 hown hw (by decide) r1 rfl (by decide) (hts _ tw_109) rfl dX4_readGrant_27 ?_
      refine lv_aload_n hx hb dX4_readGrant_30 rfl (lv_at hl 1 rfl) ?_
      refine w_get (C := RX4) (T := TX4) (N := 4) 3 hx hb hts inX4 hown hw (by decide) r1 rfl (by decide) (hts _ tw_112) rfl dX4_readGrant_31 ?_
      refine lv_iconst (v := 4) hx hb dX4_readGrant_34 (by decide) ?_
      refine lv_iload_n hx hb dX4_readGrant_35 rfl (lv_at hl 0 rfl) ?_
      refine cQv (rV (As := [_, _, _]) ⟨hx, hb, hml, hown, hts⟩ hw (k_X1_put l (by decide) (by decide) h1 h2 hn (ix q 4) (by omega)) (cv_X1_put hts tw_749 rfl rfl ⟨Nat.le_of_ble_eq_true rfl, Nat.le_of_ble_eq_true rfl⟩) (by decide) h1 rfl rfl hl.1 rfl (by first | exact Nat.le_of_ble_eq_true rfl | decide) dX4_readGrant_36 ⟨Nat.zero_le _, Nat.zero_le _⟩) hw hS (fun w20 H locs hp36 hw hS => ?_)
      have k1_20 : w20 12 = .inr (7, [.ref (gad G 13), .ref (gad G 14), .ref (gad G 15), .int (nI kn)]) := by rw [hp36]; exact vu_e (by decide) k1
      have k2_20 : w20 13 = .inl (gI G, 121, .inl kk) := by rw [hp36]; exact vu_e (by decide) k2
      have k3_20 : w20 14 = .inl (gI G, 121, .inl ks) := by rw [hp36]; exact vu_e (by decide) k3
      have k4_20 : w20 15 = .inl (gI G, 121, .inl kv) := by rw [hp36]; exact vu_e (by decide) k4
      have r1_20 : w20 11 = .inr (3, [.ref (gad G 1), .ref (gad G 12), .int (nI (lk)), .int (nI q)]) := by rw [hp36]; exact vu_e (by decide) r1
      have h1_20 : w20 1 = .inr (0, [.ref (gad G 2), .int (nI n)]) := by rw [hp36]; exact vu_e (by decide) h1
      have h2_20 : w20 2 = .inl (gI G, 132, .inl (upd f (q * 11 + 4) (4))) := by rw [hp36]; exact vu_s
      refine lv_aload_n hx hb dX4_readGrant_39 rfl (lv_at hl 1 rfl) ?_
      refine lv_dup hx hb dX4_readGrant_40 rfl ?_
      refine w_get (C := RX4) (T := TX4) (N := 4) 2 hx hb hts inX4 hown hw (by decide) r1_20 rfl (by decide) (hts _ tw_111) rfl dX4_readGrant_41 ?_
      refine lv_iconst (v := 1) hx hb dX4_readGrant_44 (by decide) ?_
      refine lv_iadd hx hb dX4_readGrant_45 ?_
      refine tp (y := nI (lk + 1)) (nI_1 _) ?_
      refine w_put (C := RX4) (T := TX4) (N := 4) (v := .int (nI (lk + 1))) 2 tyX4 hx hb hts inX4 tyX4_ok nmX4 hown hw hX hS (by decide) r1_20 rfl (by decide) (hts _ tw_111) rfl rfl (rfl) (rfl) (Nat.le_of_ble_eq_true rfl) dX4_readGrant_46 (fun H locs hw hS => ?_)
      obtain ⟨w22, ew22⟩ : ∃ wz9 : Nat → va_E, wz9 = va_up w20 11 (.inr (3, [.ref (gad G 1), .ref (gad G 12), .int (nI (lk + 1)), .int (nI q)])) := ⟨_, rfl⟩
      have hw : Hw G w22 s H := by rw [ew22]; exact hw
      have k1_22 : w22 12 = .inr (7, [.ref (gad G 13), .ref (gad G 14), .ref (gad G 15), .int (nI kn)]) := by rw [ew22]; exact vu_e (by decide) k1_20
      have k2_22 : w22 13 = .inl (gI G, 121, .inl kk) := by rw [ew22]; exact vu_e (by decide) k2_20
      have k3_22 : w22 14 = .inl (gI G, 121, .inl ks) := by rw [ew22]; exact vu_e (by decide) k3_20
      have k4_22 : w22 15 = .inl (gI G, 121, .inl kv) := by rw [ew22]; exact vu_e (by decide) k4_20
      have r1_22 : w22 11 = .inr (3, [.ref (gad G 1), .ref (gad G 12), .int (nI (lk + 1)), .int (nI q)]) := by rw [ew22]; exact vu_s
      have h1_22 : w22 1 = .inr (0, [.ref (gad G 2), .int (nI n)]) := by rw [ew22]; exact vu_e (by decide) h1_20
      have h2_22 : w22 2 = .inl (gI G, 132, .inl (upd f (q * 11 + 4) (4))) := by rw [ew22]; exact vu_e (by decide) h2_20
      have hlk1 : lk + 1 < kn := hE lk hlk (isW_ne c7)
      refine lv_iload_n hx hb dX4_readGrant_49 rfl (lv_at hl 0 rfl) ?_
      refine lv_iconst (v := 3) hx hb dX4_readGrant_50 (by decide) ?_
      refine lv_icmp_ne (tgt := 56) hx hb dX4_readGrant_51 (by decide) (fun c51 => ?_) (fun q => absurd q (by decide))
      refine lv_iload_n hx hb dX4_readGrant_56 rfl (lv_at hl 0 rfl) ?_
      refine cSe (rST (As := [_]) ⟨hx, hb, hml, hown, hts⟩ (k_X1_grantNeedsTrait l ) (cv_X1_grantNeedsTrait hts tw_762 rfl rfl ⟨Nat.le_of_ble_eq_true rfl, Nat.le_of_ble_eq_true rfl⟩) rfl hl.1 rfl (by first | exact Nat.le_of_ble_eq_true rfl | decide) dX4_readGrant_57 ⟨Nat.zero_le _, Nat.zero_le _⟩) ?_
      refine zb_eq (tgt := 73) hx hb dX4_readGrant_60 (by decide) (fun q => Bool.noConfusion ((rfl).symm.trans q)) (fun c60 => ?_)
      refine lv_aload_n hx hb dX4_readGrant_63 rfl (lv_at hl 1 rfl) ?_
      refine lv_iconst (v := 5) hx hb dX4_readGrant_64 (by decide) ?_
      refine cQi (rV (As := [_]) ⟨hx, hb, hml, hown, hts⟩ hw (k_X4_takeTrait l k1_22 k2_22 k3_22 k4_22 hkn r1_22 h1_22 h2_22 hT hE hlk1 hn hq (fd := 5) (by omega)) (cv_X4_takeTrait hts tw_754 rfl rfl ⟨Nat.le_of_ble_eq_true rfl, Nat.le_of_ble_eq_true rfl⟩) (by decide) r1_22 rfl rfl hl.1 rfl (by first | exact Nat.le_of_ble_eq_true rfl | decide) dX4_readGrant_65 ⟨Nat.zero_le _, Nat.zero_le _⟩) hw hS (fun r65 w23 H locs hp65 hw hS => ?_)
      obtain ⟨b65, kz65, f65, hX65, hl65, rfl, hp65⟩ := hp65
      have k1_23 : w23 12 = .inr (7, [.ref (gad G 13), .ref (gad G 14), .ref (gad G 15), .int (nI kn)]) := by rw [hp65]; exact D2_o (by decide) (by decide) k1_22
      have k2_23 : w23 13 = .inl (gI G, 121, .inl kk) := by rw [hp65]; exact D2_o (by decide) (by decide) k2_22
      have k3_23 : w23 14 = .inl (gI G, 121, .inl ks) := by rw [hp65]; exact D2_o (by decide) (by decide) k3_22
      have k4_23 : w23 15 = .inl (gI G, 121, .inl kv) := by rw [hp65]; exact D2_o (by decide) (by decide) k4_22
      have r1_23 : w23 11 = .inr (3, [.ref (gad G 1), .ref (gad G 12), .int (nI (kz65)), .int (nI q)]) := by rw [hp65]; exact D2_j
      have h1_23 : w23 1 = .inr (0, [.ref (gad G 2), .int (nI n)]) := by rw [hp65]; exact D2_o (by decide) (by decide) h1_22
      have h2_23 : w23 2 = .inl (gI G, 132, .inl f65) := by rw [hp65]; exact D2_i (by decide)
      refine zb_ne (tgt := 73) hx hb dX4_readGrant_68 (by decide) (fun c68 => ?_) (fun c68 => ?_)
      · refine lv_aload_n hx hb dX4_readGrant_73 rfl (lv_at hl 1 rfl) ?_
        refine lv_bipush (v := 6) hx hb dX4_readGrant_74 (by decide) ?_
        refine lv_iconst (v := 0) hx hb dX4_readGrant_76 (by decide) ?_
        refine lv_sipush (v := 999) hx hb dX4_readGrant_77 (by decide) ?_
        refine cQi (rV (As := [_, _, _]) ⟨hx, hb, hml, hown, hts⟩ hw (k_X4_takeNumber l k1_23 k2_23 k3_23 k4_23 hkn r1_23 h1_23 h2_23 hT hE hl65 hn hq (fd := 6) (by omega)) (cv_X4_takeNumber hts tw_750 rfl rfl ⟨Nat.le_of_ble_eq_true rfl, Nat.le_of_ble_eq_true rfl⟩) (by decide) r1_23 rfl rfl hl.1 rfl (by first | exact Nat.le_of_ble_eq_true rfl | decide) dX4_readGrant_80 ⟨Nat.zero_le _, Nat.zero_le _⟩) hw hS (fun r80 w24 H locs hp80 hw hS => ?_)
        obtain ⟨b80, kz80, f80, hX80, hl80, rfl, hp80⟩ := hp80
        have k1_24 : w24 12 = .inr (7, [.ref (gad G 13), .ref (gad G 14), .ref (gad G 15), .int (nI kn)]) := by rw [hp80]; exact D2_o (by decide) (by decide) k1_23
        have k2_24 : w24 13 = .inl (gI G, 121, .inl kk) := by rw [hp80]; exact D2_o (by decide) (by decide) k2_23
        have k3_24 : w24 14 = .inl (gI G, 121, .inl ks) := by rw [hp80]; exact D2_o (by decide) (by decide) k3_23
        have k4_24 : w24 15 = .inl (gI G, 121, .inl kv) := by rw [hp80]; exact D2_o (by decide) (by decide) k4_23
        have r1_24 : w24 11 = .inr (3, [.ref (gad G 1), .ref (gad G 12), .int (nI (kz80)), .int (nI q)]) := by rw [hp80]; exact D2_j
        have h1_24 : w24 1 = .inr (0, [.ref (gad G 2), .int (nI n)]) := by rw [hp80]; exact D2_o (by decide) (by decide) h1_23
        have h2_24 : w24 2 = .inl (gI G, 132, .inl f80) := by rw [hp80]; exact D2_i (by decide)
        refine zb_ne (tgt := 88) hx hb dX4_readGrant_83 (by decide) (fun c83 => ?_) (fun c83 => ?_)
        · skip
          refine lv_iload_n hx hb dX4_readGrant_88 rfl (lv_at hl 0 rfl) ?_
          refine cSe (rST (As := [_]) ⟨hx, hb, hml, hown, hts⟩ (k_X1_mostPart l ) (cv_X1_mostPart hts tw_763 rfl rfl ⟨Nat.le_of_ble_eq_true rfl, Nat.le_of_ble_eq_true rfl⟩) rfl hl.1 rfl (by first | exact Nat.le_of_ble_eq_true rfl | decide) dX4_readGrant_89 ⟨Nat.zero_le _, Nat.zero_le _⟩) ?_
          refine lv_if_eq (tgt := 112) hx hb dX4_readGrant_92 (by decide) (fun c92 => ?_) (fun q => absurd (rfl) q)
          skip
          refine lv_iconst (v := 1) hx hb dX4_readGrant_112 (by decide) ?_
          refine lv_goto (tgt := 117) hx hb dX4_readGrant_113 (by decide) ?_
          exact re_Q hx hb hr hlocks (rfl) hw hS dX4_readGrant_117 (⟨true, kz80, f80, by rw [rGrant, if_pos c7, hsv, rGr_4, bnd_t hX65 c68, bnd_t hX80 c83], hl80, rfl, by rw [hp80, hp65, ew22, hp36]; first | done | (rw [hc]; simp only [r1p, r2p, r3p, r4p, r5p])⟩)
        · refine lv_iconst (v := 0) hx hb dX4_readGrant_86 (by decide) ?_
          exact re_Q hx hb hr hlocks (rfl) hw hS dX4_readGrant_87 (⟨false, kz80, f80, by rw [rGrant, if_pos c7, hsv, rGr_4, bnd_t hX65 c68, bnd_f hX80 c83], hl80, rfl, by rw [hp80, hp65, ew22, hp36]; first | done | (rw [hc]; simp only [r1p, r2p, r3p, r4p, r5p])⟩)
      · refine lv_iconst (v := 0) hx hb dX4_readGrant_71 (by decide) ?_
        exact re_Q hx hb hr hlocks (rfl) hw hS dX4_readGrant_72 (⟨false, kz65, f65, by rw [rGrant, if_pos c7, hsv, rGr_4, bnd_f hX65 c68], hl65, rfl, by rw [hp65, ew22, hp36]; first | done | (rw [hc]; simp only [r1p, r2p, r3p, r4p, r5p])⟩)
  · refine lv_iconst (v := 0) hx hb dX4_readGrant_10 (by decide) ?_
    exact re_Q hx hb hr hlocks (rfl) hw hS dX4_readGrant_11 (⟨false, lk, f, by rw [rGrant, if_neg (by rw [c7]; decide)], hlk, rfl, by first | done | (rw [hc]; simp only [r1p, r2p, r3p, r4p, r5p])⟩)
set_option maxHeartbeats 4000000 in
set_option maxRecDepth 100000 in
theorem k_X4_readSpan (l : Launch) {G : GT} {c : Nat → va_E} {q : Nat} {kn : Nat} {kk ks kv : Nat → Int32} (k1 : c 12 = .inr (7, [.ref (gad G 13), .ref (gad G 14), .ref (gad G 15), .int (nI kn)])) (k2 : c 13 = .inl (gI G, 121, .inl kk)) (k3 : c 14 = .inl (gI G, 121, .inl ks)) (k4 : c 15 = .inl (gI G, 121, .inl kv)) (hkn : kn ≤ 121) {K V : Nat → Int32} {lk n : Nat} {f : Nat → Int32} (r1 : c 11 = .inr (3, [.ref (gad G 1), .ref (gad G 12), .int (nI (lk)), .int (nI q)])) (h1 : c 1 = .inr (0, [.ref (gad G 2), .int (nI n)])) (h2 : c 2 = .inl (gI G, 132, .inl f)) (hT : ∀ x, x < kn → kk x = K x ∧ kv x = V x) (hE : ∀ x, x < kn → K x ≠ 0 → x + 1 < kn) (hlk : lk < kn) (hn : n ≤ 12) (hq : q < 12)  : Met l yX4_readSpan (wv yX4_readSpan cX4_readSpan 1 (some .boolean)) ({ frames := 3, cells := 0, slots := 0, locals := 65 } : Room) (va_Pc [.ref (gad G 11)] (fun U => Hw G c U U.heap)) (va_Qi (fun r (c9 : Nat → va_E) => ∃ (b9 : Bool) (k9 : Nat) (f9 : Nat → Int32), rSpan K V q lk f = (b9, k9, f9) ∧ k9 < kn ∧ r = bi b9 ∧ c9 = D2 2 11 c (.inl (gI G, 132, .inl f9)) (.inr (3, [.ref (gad G 1), .ref (gad G 12), .int (nI (k9)), .int (nI q)]))) (fun c9 t => Hw G c9 t t.heap) (gA G)) 0 0 (gA G) := by
  refine en (by decide +kernel) (by first | exact Nat.le_of_ble_eq_true rfl | decide) ?_
  intro p e s m below meth cd ls hx hb hr hml hown hts hlocks hnm hw hl
  have hl : lv_has ls 1 [(0, .ref (gad G 11))] := hl
  have hX : Sw G s s.heap := hw.2.2.2.2.2
  have hS : va_S (gA G) s.heap s.heap [] := va_S.rf
  obtain ⟨H, hH⟩ : ∃ wz9, wz9 = s.heap := ⟨_, rfl⟩
  obtain ⟨locs, hlocs⟩ : ∃ wz9 : List Loc, wz9 = [] := ⟨_, rfl⟩
  have hw : Hw G c s H := by rw [hH]; exact hw
  have hS : va_S (gA G) s.heap H locs := by rw [hH, hlocs]; exact hS
  suffices hgo : W p l e ({ frames := 3, cells := 0, slots := 0, locals := 65 } : Room) s m (([.ref (gad G 11)] : List Value).toArray) below meth cd H locs 0 0 (MQ below (va_Qi (fun r (c9 : Nat → va_E) => ∃ (b9 : Bool) (k9 : Nat) (f9 : Nat → Int32), rSpan K V q lk f = (b9, k9, f9) ∧ k9 < kn ∧ r = bi b9 ∧ c9 = D2 2 11 c (.inl (gI G, 132, .inl f9)) (.inr (3, [.ref (gad G 1), .ref (gad G 12), .int (nI (k9)), .int (nI q)]))) (fun c9 t => Hw G c9 t t.heap) (gA G)) ([.ref (gad G 11)] : List Value).toArray s 0 0 (gA G)) (F0 m 0 ls []) by rw [hH, hlocs] at hgo; exact hgo
  have hc : c = D2 2 11 c (.inl (gI G, 132, .inl f)) (.inr (3, [.ref (gad G 1), .ref (gad G 12), .int (nI (lk)), .int (nI q)])) := D2_id h2 r1
  refine lv_aload_n hx hb dX4_readSpan_0 rfl (lv_at hl 0 rfl) ?_
  refine lv_bipush (v := 14) hx hb dX4_readSpan_1 (by decide) ?_
  refine cQi (rV (As := [_]) ⟨hx, hb, hml, hown, hts⟩ hw (k_X4_takeWord l k1 k2 k3 k4 hkn r1 h1 h2 hT hE hlk hn hq (w := 14)) (cv_X4_takeWord hts tw_741 rfl rfl ⟨Nat.le_of_ble_eq_true rfl, Nat.le_of_ble_eq_true rfl⟩) (by decide) r1 rfl rfl hl.1 rfl (by first | exact Nat.le_of_ble_eq_true rfl | decide) dX4_readSpan_3 ⟨Nat.zero_le _, Nat.zero_le _⟩) hw hS (fun r3 w1 H locs hp3 hw hS => ?_)
  obtain ⟨b3, kz3, f3, hX3, hl3, rfl, hp3⟩ := hp3
  have k1_1 : w1 12 = .inr (7, [.ref (gad G 13), .ref (gad G 14), .ref (gad G 15), .int (nI kn)]) := by rw [hp3]; exact D2_o (by decide) (by decide) k1
  have k2_1 : w1 13 = .inl (gI G, 121, .inl kk) := by rw [hp3]; exact D2_o (by decide) (by decide) k2
  have k3_1 : w1 14 = .inl (gI G, 121, .inl ks) := by rw [hp3]; exact D2_o (by decide) (by decide) k3
  have k4_1 : w1 15 = .inl (gI G, 121, .inl kv) := by rw [hp3]; exact D2_o (by decide) (by decide) k4
  have r1_1 : w1 11 = .inr (3, [.ref (gad G 1), .ref (gad G 12), .int (nI (kz3)), .int (nI q)]) := by rw [hp3]; exact D2_j
  have h1_1 : w1 1 = .inr (0, [.ref (gad G 2), .int (nI n)]) := by rw [hp3]; exact D2_o (by decide) (by decide) h1
  have h2_1 : w1 2 = .inl (gI G, 132, .inl f3) := by rw [hp3]; exact D2_i (by decide)
  refine zb_ne (tgt := 11) hx hb dX4_readSpan_6 (by decide) (fun c6 => ?_) (fun c6 => ?_)
  · refine lv_aload_n hx hb dX4_readSpan_11 rfl (lv_at hl 0 rfl) ?_
    refine lv_bipush (v := 8) hx hb dX4_readSpan_12 (by decide) ?_
    refine lv_iconst (v := 0) hx hb dX4_readSpan_14 (by decide) ?_
    refine lv_sipush (v := 999) hx hb dX4_readSpan_15 (by decide) ?_
    refine cQi (rV (As := [_, _, _]) ⟨hx, hb, hml, hown, hts⟩ hw (k_X4_takeNumber l k1_1 k2_1 k3_1 k4_1 hkn r1_1 h1_1 h2_1 hT hE hl3 hn hq (fd := 8) (by omega)) (cv_X4_takeNumber hts tw_750 rfl rfl ⟨Nat.le_of_ble_eq_true rfl, Nat.le_of_ble_eq_true rfl⟩) (by decide) r1_1 rfl rfl hl.1 rfl (by first | exact Nat.le_of_ble_eq_true rfl | decide) dX4_readSpan_18 ⟨Nat.zero_le _, Nat.zero_le _⟩) hw hS (fun r18 w2 H locs hp18 hw hS => ?_)
    obtain ⟨b18, kz18, f18, hX18, hl18, rfl, hp18⟩ := hp18
    have k1_2 : w2 12 = .inr (7, [.ref (gad G 13), .ref (gad G 14), .ref (gad G 15), .int (nI kn)]) := by rw [hp18]; exact D2_o (by decide) (by decide) k1_1
    have k2_2 : w2 13 = .inl (gI G, 121, .inl kk) := by rw [hp18]; exact D2_o (by decide) (by decide) k2_1
    have k3_2 : w2 14 = .inl (gI G, 121, .inl ks) := by rw [hp18]; exact D2_o (by decide) (by decide) k3_1
    have k4_2 : w2 15 = .inl (gI G, 121, .inl kv) := by rw [hp18]; exact D2_o (by decide) (by decide) k4_1
    have r1_2 : w2 11 = .inr (3, [.ref (gad G 1), .ref (gad G 12), .int (nI (kz18)), .int (nI q)]) := by rw [hp18]; exact D2_j
    have h1_2 : w2 1 = .inr (0, [.ref (gad G 2), .int (nI n)]) := by rw [hp18]; exact D2_o (by decide) (by decide) h1_1
    have h2_2 : w2 2 = .inl (gI G, 132, .inl f18) := by rw [hp18]; exact D2_i (by decide)
    refine zb_eq (tgt := 62) hx hb dX4_readSpan_21 (by decide) (fun c21 => ?_) (fun c21 => ?_)
    · refine lv_iconst (v := 0) hx hb dX4_readSpan_62 (by decide) ?_
      exact re_Q hx hb hr hlocks (rfl) hw hS dX4_readSpan_63 (⟨false, kz18, f18, by rw [rSpan, orr_t hX3 c6, bnd_f hX18 c21], hl18, rfl, by rw [hp18, hp3]; first | done | (rw [hc]; simp only [r1p, r2p, r3p, r4p, r5p])⟩)
    · refine lv_aload_n hx hb dX4_readSpan_24 rfl (lv_at hl 0 rfl) ?_
      refine lv_bipush (v := 15) hx hb dX4_readSpan_25 (by decide) ?_
      refine cQi (rV (As := [_]) ⟨hx, hb, hml, hown, hts⟩ hw (k_X4_takeWord l k1_2 k2_2 k3_2 k4_2 hkn r1_2 h1_2 h2_2 hT hE hl18 hn hq (w := 15)) (cv_X4_takeWord hts tw_741 rfl rfl ⟨Nat.le_of_ble_eq_true rfl, Nat.le_of_ble_eq_true rfl⟩) (by decide) r1_2 rfl rfl hl.1 rfl (by first | exact Nat.le_of_ble_eq_true rfl | decide) dX4_readSpan_27 ⟨Nat.zero_le _, Nat.zero_le _⟩) hw hS (fun r27 w3 H locs hp27 hw hS => ?_)
      obtain ⟨b27, kz27, f27, hX27, hl27, rfl, hp27⟩ := hp27
      have k1_3 : w3 12 = .inr (7, [.ref (gad G 13), .ref (gad G 14), .ref (gad G 15), .int (nI kn)]) := by rw [hp27]; exact D2_o (by decide) (by decide) k1_2
      have k2_3 : w3 13 = .inl (gI G, 121, .inl kk) := by rw [hp27]; exact D2_o (by decide) (by decide) k2_2
      have k3_3 : w3 14 = .inl (gI G, 121, .inl ks) := by rw [hp27]; exact D2_o (by decide) (by decide) k3_2
      have k4_3 : w3 15 = .inl (gI G, 121, .inl kv) := by rw [hp27]; exact D2_o (by decide) (by decide) k4_2
      have r1_3 : w3 11 = .inr (3, [.ref (gad G 1), .ref (gad G 12), .int (nI (kz27)), .int (nI q)]) := by rw [hp27]; exact D2_j
      have h1_3 : w3 1 = .inr (0, [.ref (gad G 2), .int (nI n)]) := by rw [hp27]; exact D2_o (by decide) (by decide) h1_2
      have h2_3 : w3 2 = .inl (gI G, 132, .inl f27) := by rw [hp27]; exact D2_i (by decide)
      refine zb_eq (tgt := 62) hx hb dX4_readSpan_30 (by decide) (fun c30 => ?_) (fun c30 => ?_)
      · refine lv_iconst (v := 0) hx hb dX4_readSpan_62 (by decide) ?_
        exact re_Q hx hb hr hlocks (rfl) hw hS dX4_readSpan_63 (⟨false, kz27, f27, by rw [rSpan, orr_t hX3 c6, bnd_t hX18 c21, bnd_f hX27 c30], hl27, rfl, by rw [hp27, hp18, hp3]; first | done | (rw [hc]; simp only [r1p, r2p, r3p, r4p, r5p])⟩)
      · refine lv_aload_n hx hb dX4_readSpan_33 rfl (lv_at hl 0 rfl) ?_
        refine lv_bipush (v := 9) hx hb dX4_readSpan_34 (by decide) ?_
        refine lv_aload_n hx hb dX4_readSpan_36 rfl (lv_at hl 0 rfl) ?_
        refine w_get (C := RX4) (T := TX4) (N := 4) 0 hx hb hts inX4 hown hw (by decide) r1_3 rfl (by decide) (hts _ tw_109) rfl dX4_readSpan_37 ?_
        refine lv_aload_n hx hb dX4_readSpan_40 rfl (lv_at hl 0 rfl) ?_
        refine w_get (C := RX4) (T := TX4) (N := 4) 3 hx hb hts inX4 hown hw (by decide) r1_3 rfl (by decide) (hts _ tw_112) rfl dX4_readSpan_41 ?_
        refine lv_bipush (v := 8) hx hb dX4_readSpan_44 (by decide) ?_
        refine cSe (rV (As := [_, _]) ⟨hx, hb, hml, hown, hts⟩ hw (k_X1_at l (by decide) (by decide) h1_3 h2_3 hn (ix q 8) (by omega)) (cv_X1_at hts tw_769 rfl rfl ⟨Nat.le_of_ble_eq_true rfl, Nat.le_of_ble_eq_true rfl⟩) (by decide) h1_3 rfl rfl hl.1 rfl (by first | exact Nat.le_of_ble_eq_true rfl | decide) dX4_readSpan_46 ⟨Nat.zero_le _, Nat.zero_le _⟩) ?_
        refine lv_sipush (v := 999) hx hb dX4_readSpan_49 (by decide) ?_
        refine cQi (rV (As := [_, _, _]) ⟨hx, hb, hml, hown, hts⟩ hw (k_X4_takeNumber l k1_3 k2_3 k3_3 k4_3 hkn r1_3 h1_3 h2_3 hT hE hl27 hn hq (fd := 9) (by omega)) (cv_X4_takeNumber hts tw_750 rfl rfl ⟨Nat.le_of_ble_eq_true rfl, Nat.le_of_ble_eq_true rfl⟩) (by decide) r1_3 rfl rfl hl.1 rfl (by first | exact Nat.le_of_ble_eq_true rfl | decide) dX4_readSpan_52 ⟨Nat.zero_le _, Nat.zero_le _⟩) hw hS (fun r52 w4 H locs hp52 hw hS => ?_)
        obtain ⟨b52, kz52, f52, hX52, hl52, rfl, hp52⟩ := hp52
        have k1_4 : w4 12 = .inr (7, [.ref (gad G 13), .ref (gad G 14), .ref (gad G 15), .int (nI kn)]) := by rw [hp52]; exact D2_o (by decide) (by decide) k1_3
        have k2_4 : w4 13 = .inl (gI G, 121, .inl kk) := by rw [hp52]; exact D2_o (by decide) (by decide) k2_3
        have k3_4 : w4 14 = .inl (gI G, 121, .inl ks) := by rw [hp52]; exact D2_o (by decide) (by decide) k3_3
        have k4_4 : w4 15 = .inl (gI G, 121, .inl kv) := by rw [hp52]; exact D2_o (by decide) (by decide) k4_3
        have r1_4 : w4 11 = .inr (3, [.ref (gad G 1), .ref (gad G 12), .int (nI (kz52)), .int (nI q)]) := by rw [hp52]; exact D2_j
        have h1_4 : w4 1 = .inr (0, [.ref (gad G 2), .int (nI n)]) := by rw [hp52]; exact D2_o (by decide) (by decide) h1_3
        have h2_4 : w4 2 = .inl (gI G, 132, .inl f52) := by rw [hp52]; exact D2_i (by decide)
        refine zb_eq (tgt := 62) hx hb dX4_readSpan_55 (by decide) (fun c55 => ?_) (fun c55 => ?_)
        · refine lv_iconst (v := 0) hx hb dX4_readSpan_62 (by decide) ?_
          exact re_Q hx hb hr hlocks (rfl) hw hS dX4_readSpan_63 (⟨false, kz52, f52, by rw [rSpan, orr_t hX3 c6, bnd_t hX18 c21, bnd_t hX27 c30, hX52, c55], hl52, rfl, by rw [hp52, hp27, hp18, hp3]; first | done | (rw [hc]; simp only [r1p, r2p, r3p, r4p, r5p])⟩)
        · skip
          refine lv_iconst (v := 1) hx hb dX4_readSpan_58 (by decide) ?_
          refine lv_goto (tgt := 63) hx hb dX4_readSpan_59 (by decide) ?_
          exact re_Q hx hb hr hlocks (rfl) hw hS dX4_readSpan_63 (⟨true, kz52, f52, by rw [rSpan, orr_t hX3 c6, bnd_t hX18 c21, bnd_t hX27 c30, hX52, c55], hl52, rfl, by rw [hp52, hp27, hp18, hp3]; first | done | (rw [hc]; simp only [r1p, r2p, r3p, r4p, r5p])⟩)
  · refine lv_iconst (v := 1) hx hb dX4_readSpan_9 (by decide) ?_
    exact re_Q hx hb hr hlocks (rfl) hw hS dX4_readSpan_10 (⟨true, kz3, f3, by rw [rSpan, orr_f hX3 c6], hl3, rfl, by rw [hp3]; first | done | (rw [hc]; simp only [r1p, r2p, r3p, r4p, r5p])⟩)
set_option maxHeartbeats 4000000 in
set_option maxRecDepth 100000 in
theorem k_X4_readException (l : Launch) {G : GT} {c : Nat → va_E} {q : Nat} {kn : Nat} {kk ks kv : Nat → Int32} (k1 : c 12 = .inr (7, [.ref (gad G 13), .ref (gad G 14), .ref (gad G 15), .int (nI kn)])) (k2 : c 13 = .inl (gI G, 121, .inl kk)) (k3 : c 14 = .inl (gI G, 121, .inl ks)) (k4 : c 15 = .inl (gI G, 121, .inl kv)) (hkn : kn ≤ 121) {K V : Nat → Int32} {lk n : Nat} {f : Nat → Int32} (r1 : c 11 = .inr (3, [.ref (gad G 1), .ref (gad G 12), .int (nI (lk)), .int (nI q)])) (h1 : c 1 = .inr (0, [.ref (gad G 2), .int (nI n)])) (h2 : c 2 = .inl (gI G, 132, .inl f)) (hT : ∀ x, x < kn → kk x = K x ∧ kv x = V x) (hE : ∀ x, x < kn → K x ≠ 0 → x + 1 < kn) (hlk : lk < kn) (hn : n ≤ 12) (hq : q < 12)  : Met l yX4_readException (wv yX4_readException cX4_readException 1 (some .boolean)) ({ frames := 3, cells := 0, slots := 0, locals := 65 } : Room) (va_Pc [.ref (gad G 11)] (fun U => Hw G c U U.heap)) (va_Qi (fun r (c9 : Nat → va_E) => ∃ (b9 : Bool) (k9 : Nat) (f9 : Nat → Int32), rExc K V q lk f = (b9, k9, f9) ∧ k9 < kn ∧ r = bi b9 ∧ c9 = D2 2 11 c (.inl (gI G, 132, .inl f9)) (.inr (3, [.ref (gad G 1), .ref (gad G 12), .int (nI (k9)), .int (nI q)]))) (fun c9 t => Hw G c9 t t.heap) (gA G)) 0 0 (gA G) := by
  refine en (by decide +kernel) (by first | exact Nat.le_of_ble_eq_true rfl | decide) ?_
  intro p e s m below meth cd ls hx hb hr hml hown hts hlocks hnm hw hl
  have hl : lv_has ls 1 [(0, .ref (gad G 11))] := hl
  have hX : Sw G s s.heap := hw.2.2.2.2.2
  have hS : va_S (gA G) s.heap s.heap [] := va_S.rf
  obtain ⟨H, hH⟩ : ∃ wz9, wz9 = s.heap := ⟨_, rfl⟩
  obtain ⟨locs, hlocs⟩ : ∃ wz9 : List Loc, wz9 = [] := ⟨_, rfl⟩
  have hw : Hw G c s H := by rw [hH]; exact hw
  have hS : va_S (gA G) s.heap H locs := by rw [hH, hlocs]; exact hS
  suffices hgo : W p l e ({ frames := 3, cells := 0, slots := 0, locals := 65 } : Room) s m (([.ref (gad G 11)] : List Value).toArray) below meth cd H locs 0 0 (MQ below (va_Qi (fun r (c9 : Nat → va_E) => ∃ (b9 : Bool) (k9 : Nat) (f9 : Nat → Int32), rExc K V q lk f = (b9, k9, f9) ∧ k9 < kn ∧ r = bi b9 ∧ c9 = D2 2 11 c (.inl (gI G, 132, .inl f9)) (.inr (3, [.ref (gad G 1), .ref (gad G 12), .int (nI (k9)), .int (nI q)]))) (fun c9 t => Hw G c9 t t.heap) (gA G)) ([.ref (gad G 11)] : List Value).toArray s 0 0 (gA G)) (F0 m 0 ls []) by rw [hH, hlocs] at hgo; exact hgo
  have hc : c = D2 2 11 c (.inl (gI G, 132, .inl f)) (.inr (3, [.ref (gad G 1), .ref (gad G 12), .int (nI (lk)), .int (nI q)])) := D2_id h2 r1
  refine lv_aload_n hx hb dX4_readException_0 rfl (lv_at hl 0 rfl) ?_
  refine lv_bipush (v := 16) hx hb dX4_readException_1 (by decide) ?_
  refine cQi (rV (As := [_]) ⟨hx, hb, hml, hown, hts⟩ hw (k_X4_takeWord l k1 k2 k3 k4 hkn r1 h1 h2 hT hE hlk hn hq (w := 16)) (cv_X4_takeWord hts tw_741 rfl rfl ⟨Nat.le_of_ble_eq_true rfl, Nat.le_of_ble_eq_true rfl⟩) (by decide) r1 rfl rfl hl.1 rfl (by first | exact Nat.le_of_ble_eq_true rfl | decide) dX4_readException_3 ⟨Nat.zero_le _, Nat.zero_le _⟩) hw hS (fun r3 w1 H locs hp3 hw hS => ?_)
  obtain ⟨b3, kz3, f3, hX3, hl3, rfl, hp3⟩ := hp3
  have k1_1 : w1 12 = .inr (7, [.ref (gad G 13), .ref (gad G 14), .ref (gad G 15), .int (nI kn)]) := by rw [hp3]; exact D2_o (by decide) (by decide) k1
  have k2_1 : w1 13 = .inl (gI G, 121, .inl kk) := by rw [hp3]; exact D2_o (by decide) (by decide) k2
  have k3_1 : w1 14 = .inl (gI G, 121, .inl ks) := by rw [hp3]; exact D2_o (by decide) (by decide) k3
  have k4_1 : w1 15 = .inl (gI G, 121, .inl kv) := by rw [hp3]; exact D2_o (by decide) (by decide) k4
  have r1_1 : w1 11 = .inr (3, [.ref (gad G 1), .ref (gad G 12), .int (nI (kz3)), .int (nI q)]) := by rw [hp3]; exact D2_j
  have h1_1 : w1 1 = .inr (0, [.ref (gad G 2), .int (nI n)]) := by rw [hp3]; exact D2_o (by decide) (by decide) h1
  have h2_1 : w1 2 = .inl (gI G, 132, .inl f3) := by rw [hp3]; exact D2_i (by decide)
  refine zb_ne (tgt := 11) hx hb dX4_readException_6 (by decide) (fun c6 => ?_) (fun c6 => ?_)
  · refine lv_aload_n hx hb dX4_readException_11 rfl (lv_at hl 0 rfl) ?_
    refine lv_bipush (v := 10) hx hb dX4_readException_12 (by decide) ?_
    refine lv_iconst (v := 0) hx hb dX4_readException_14 (by decide) ?_
    refine lv_aload_n hx hb dX4_readException_15 rfl (lv_at hl 0 rfl) ?_
    refine w_get (C := RX4) (T := TX4) (N := 4) 3 hx hb hts inX4 hown hw (by decide) r1_1 rfl (by decide) (hts _ tw_112) rfl dX4_readException_16 ?_
    refine lv_iconst (v := 1) hx hb dX4_readException_19 (by decide) ?_
    refine lv_isub hx hb dX4_readException_20 ?_
    refine cQi (rV (As := [_, _, _]) ⟨hx, hb, hml, hown, hts⟩ hw (k_X4_takeNumber l k1_1 k2_1 k3_1 k4_1 hkn r1_1 h1_1 h2_1 hT hE hl3 hn hq (fd := 10) (by omega)) (cv_X4_takeNumber hts tw_750 rfl rfl ⟨Nat.le_of_ble_eq_true rfl, Nat.le_of_ble_eq_true rfl⟩) (by decide) r1_1 rfl rfl hl.1 rfl (by first | exact Nat.le_of_ble_eq_true rfl | decide) dX4_readException_21 ⟨Nat.zero_le _, Nat.zero_le _⟩) hw hS (fun r21 w2 H locs hp21 hw hS => ?_)
    obtain ⟨b21, kz21, f21, hX21, hl21, rfl, hp21⟩ := hp21
    have k1_2 : w2 12 = .inr (7, [.ref (gad G 13), .ref (gad G 14), .ref (gad G 15), .int (nI kn)]) := by rw [hp21]; exact D2_o (by decide) (by decide) k1_1
    have k2_2 : w2 13 = .inl (gI G, 121, .inl kk) := by rw [hp21]; exact D2_o (by decide) (by decide) k2_1
    have k3_2 : w2 14 = .inl (gI G, 121, .inl ks) := by rw [hp21]; exact D2_o (by decide) (by decide) k3_1
    have k4_2 : w2 15 = .inl (gI G, 121, .inl kv) := by rw [hp21]; exact D2_o (by decide) (by decide) k4_1
    have r1_2 : w2 11 = .inr (3, [.ref (gad G 1), .ref (gad G 12), .int (nI (kz21)), .int (nI q)]) := by rw [hp21]; exact D2_j
    have h1_2 : w2 1 = .inr (0, [.ref (gad G 2), .int (nI n)]) := by rw [hp21]; exact D2_o (by decide) (by decide) h1_1
    have h2_2 : w2 2 = .inl (gI G, 132, .inl f21) := by rw [hp21]; exact D2_i (by decide)
    exact re_Q hx hb hr hlocks (bi_n _) hw hS dX4_readException_24 (⟨b21, kz21, f21, by rw [rExc, orr_t hX3 c6, hX21], hl21, rfl, by rw [hp21, hp3]; first | done | (rw [hc]; simp only [r1p, r2p, r3p, r4p, r5p])⟩)
  · refine lv_iconst (v := 1) hx hb dX4_readException_9 (by decide) ?_
    exact re_Q hx hb hr hlocks (rfl) hw hS dX4_readException_10 (⟨true, kz3, f3, by rw [rExc, orr_f hX3 c6], hl3, rfl, by rw [hp3]; first | done | (rw [hc]; simp only [r1p, r2p, r3p, r4p, r5p])⟩)
set_option maxHeartbeats 4000000 in
set_option maxRecDepth 100000 in
theorem k_X4_readLaw (l : Launch) {G : GT} {c : Nat → va_E} {cl : Int32} {kn : Nat} {kk ks kv : Nat → Int32} (k1 : c 12 = .inr (7, [.ref (gad G 13), .ref (gad G 14), .ref (gad G 15), .int (nI kn)])) (k2 : c 13 = .inl (gI G, 121, .inl kk)) (k3 : c 14 = .inl (gI G, 121, .inl ks)) (k4 : c 15 = .inl (gI G, 121, .inl kv)) (hkn : kn ≤ 121) {K V : Nat → Int32} {lk n : Nat} {f : Nat → Int32} (r1 : c 11 = .inr (3, [.ref (gad G 1), .ref (gad G 12), .int (nI (lk)), .int (cl)])) (h1 : c 1 = .inr (0, [.ref (gad G 2), .int (nI n)])) (h2 : c 2 = .inl (gI G, 132, .inl f)) (hT : ∀ x, x < kn → kk x = K x ∧ kv x = V x) (hE : ∀ x, x < kn → K x ≠ 0 → x + 1 < kn) (hlk : lk < kn) (hn : n ≤ 12)  : Met l yX4_readLaw (wv yX4_readLaw cX4_readLaw 1 (some .boolean)) ({ frames := 4, cells := 0, slots := 0, locals := 89 } : Room) (va_Pc [.ref (gad G 11)] (fun U => Hw G c U U.heap)) (va_Qi (fun r (c9 : Nat → va_E) => ∃ (b9 : Bool) (k9 : Nat) (f9 : Nat → Int32) (n9 : Nat) (cl9 : Int32), rLaw K V n lk f = (b9, k9, f9, n9) ∧ k9 < kn ∧ n9 ≤ 12 ∧ r = bi b9 ∧ c9 = D2 2 11 (va_up c 1 (.inr (0, [.ref (gad G 2), .int (nI (n9))]))) (.inl (gI G, 132, .inl f9)) (.inr (3, [.ref (gad G 1), .ref (gad G 12), .int (nI (k9)), .int (cl9)]))) (fun c9 t => Hw G c9 t t.heap) (gA G)) 0 0 (gA G) := by
  refine en (by decide +kernel) (by first | exact Nat.le_of_ble_eq_true rfl | decide) ?_
  intro p e s m below meth cd ls hx hb hr hml hown hts hlocks hnm hw hl
  have hl : lv_has ls 1 [(0, .ref (gad G 11))] := hl
  have hX : Sw G s s.heap := hw.2.2.2.2.2
  have hS : va_S (gA G) s.heap s.heap [] := va_S.rf
  obtain ⟨H, hH⟩ : ∃ wz9, wz9 = s.heap := ⟨_, rfl⟩
  obtain ⟨locs, hlocs⟩ : ∃ wz9 : List Loc, wz9 = [] := ⟨_, rfl⟩
  have hw : Hw G c s H := by rw [hH]; exact hw
  have hS : va_S (gA G) s.heap H locs := by rw [hH, hlocs]; exact hS
  suffices hgo : W p l e ({ frames := 4, cells := 0, slots := 0, locals := 89 } : Room) s m (([.ref (gad G 11)] : List Value).toArray) below meth cd H locs 0 0 (MQ below (va_Qi (fun r (c9 : Nat → va_E) => ∃ (b9 : Bool) (k9 : Nat) (f9 : Nat → Int32) (n9 : Nat) (cl9 : Int32), rLaw K V n lk f = (b9, k9, f9, n9) ∧ k9 < kn ∧ n9 ≤ 12 ∧ r = bi b9 ∧ c9 = D2 2 11 (va_up c 1 (.inr (0, [.ref (gad G 2), .int (nI (n9))]))) (.inl (gI G, 132, .inl f9)) (.inr (3, [.ref (gad G 1), .ref (gad G 12), .int (nI (k9)), .int (cl9)]))) (fun c9 t => Hw G c9 t t.heap) (gA G)) ([.ref (gad G 11)] : List Value).toArray s 0 0 (gA G)) (F0 m 0 ls []) by rw [hH, hlocs] at hgo; exact hgo
  refine lv_aload_n hx hb dX4_readLaw_0 rfl (lv_at hl 0 rfl) ?_
  refine lv_bipush (v := 9) hx hb dX4_readLaw_1 (by decide) ?_
  refine lv_bipush (v := 9) hx hb dX4_readLaw_3 (by decide) ?_
  refine cSe (rV (As := [_, _]) ⟨hx, hb, hml, hown, hts⟩ hw (k_X4_isWord l k1 k2 k3 k4 hkn r1 h1 h2 hT hE hlk hn) (cv_X4_isWord hts tw_723 rfl rfl ⟨Nat.le_of_ble_eq_true rfl, Nat.le_of_ble_eq_true rfl⟩) (by decide) r1 rfl rfl hl.1 rfl (by first | exact Nat.le_of_ble_eq_true rfl | decide) dX4_readLaw_5 ⟨Nat.zero_le _, Nat.zero_le _⟩) ?_
  refine zb_ne (tgt := 13) hx hb dX4_readLaw_8 (by decide) (fun c8 => ?_) (fun c8 => ?_)
  · refine lv_aload_n hx hb dX4_readLaw_13 rfl (lv_at hl 0 rfl) ?_
    refine lv_aload_n hx hb dX4_readLaw_14 rfl (lv_at hl 0 rfl) ?_
    refine w_get (C := RX4) (T := TX4) (N := 4) 0 hx hb hts inX4 hown hw (by decide) r1 rfl (by decide) (hts _ tw_109) rfl dX4_readLaw_15 ?_
    refine cQi (rV (As := []) ⟨hx, hb, hml, hown, hts⟩ hw (k_X1_append l (by decide) (by decide) h1 h2 hn) (cv_X1_append hts tw_736 rfl rfl ⟨Nat.le_of_ble_eq_true rfl, Nat.le_of_ble_eq_true rfl⟩) (by decide) h1 rfl rfl hl.1 rfl (by first | exact Nat.le_of_ble_eq_true rfl | decide) dX4_readLaw_18 ⟨Nat.zero_le _, Nat.zero_le _⟩) hw hS (fun r18 w1 H locs hp18 hw hS => ?_)
    rcases hp18 with ⟨a1, rfl, a3⟩ | ⟨a1, rfl, a3⟩
    · have k1_1 : w1 12 = .inr (7, [.ref (gad G 13), .ref (gad G 14), .ref (gad G 15), .int (nI kn)]) := by rw [a3]; exact k1
      have k2_1 : w1 13 = .inl (gI G, 121, .inl kk) := by rw [a3]; exact k2
      have k3_1 : w1 14 = .inl (gI G, 121, .inl ks) := by rw [a3]; exact k3
      have k4_1 : w1 15 = .inl (gI G, 121, .inl kv) := by rw [a3]; exact k4
      have r1_1 : w1 11 = .inr (3, [.ref (gad G 1), .ref (gad G 12), .int (nI (lk)), .int (cl)]) := by rw [a3]; exact r1
      have h1_1 : w1 1 = .inr (0, [.ref (gad G 2), .int (nI n)]) := by rw [a3]; exact h1
      have h2_1 : w1 2 = .inl (gI G, 132, .inl f) := by rw [a3]; exact h2
      refine w_put (C := RX4) (T := TX4) (N := 4) (v := .int (-4)) 3 tyX4 hx hb hts inX4 tyX4_ok nmX4 hown hw hX hS (by decide) r1_1 rfl (by decide) (hts _ tw_112) rfl rfl (rfl) (rfl) (Nat.le_of_ble_eq_true rfl) dX4_readLaw_21 (fun H locs hw hS => ?_)
      obtain ⟨w3, ew3⟩ : ∃ wz9 : Nat → va_E, wz9 = va_up w1 11 (.inr (3, [.ref (gad G 1), .ref (gad G 12), .int (nI (lk)), .int (-4)])) := ⟨_, rfl⟩
      have hw : Hw G w3 s H := by rw [ew3]; exact hw
      have k1_3 : w3 12 = .inr (7, [.ref (gad G 13), .ref (gad G 14), .ref (gad G 15), .int (nI kn)]) := by rw [ew3]; exact vu_e (by decide) k1_1
      have k2_3 : w3 13 = .inl (gI G, 121, .inl kk) := by rw [ew3]; exact vu_e (by decide) k2_1
      have k3_3 : w3 14 = .inl (gI G, 121, .inl ks) := by rw [ew3]; exact vu_e (by decide) k3_1
      have k4_3 : w3 15 = .inl (gI G, 121, .inl kv) := by rw [ew3]; exact vu_e (by decide) k4_1
      have r1_3 : w3 11 = .inr (3, [.ref (gad G 1), .ref (gad G 12), .int (nI (lk)), .int (-4)]) := by rw [ew3]; exact vu_s
      have h1_3 : w3 1 = .inr (0, [.ref (gad G 2), .int (nI n)]) := by rw [ew3]; exact vu_e (by decide) h1_1
      have h2_3 : w3 2 = .inl (gI G, 132, .inl f) := by rw [ew3]; exact vu_e (by decide) h2_1
      refine lv_aload_n hx hb dX4_readLaw_24 rfl (lv_at hl 0 rfl) ?_
      refine w_get (C := RX4) (T := TX4) (N := 4) 3 hx hb hts inX4 hown hw (by decide) r1_3 rfl (by decide) (hts _ tw_112) rfl dX4_readLaw_25 ?_
      refine lv_bipush (v := (-4)) hx hb dX4_readLaw_28 (by decide) ?_
      refine lv_icmp_ne (tgt := 35) hx hb dX4_readLaw_30 (by decide) (fun q => absurd (rfl) q) (fun c30 => ?_)
      refine lv_iconst (v := 0) hx hb dX4_readLaw_33 (by decide) ?_
      exact re_Q hx hb hr hlocks (rfl) hw hS dX4_readLaw_34 (⟨false, lk, f, n, -4, by rw [rLaw, if_neg (by simp [a1])], hlk, hn, rfl, by rw [ew3, a3, up_id h1, D2, up_id h2]⟩)
    · have k1_1 : w1 12 = .inr (7, [.ref (gad G 13), .ref (gad G 14), .ref (gad G 15), .int (nI kn)]) := by rw [a3]; exact vu_e (by decide) (vu_e (by decide) k1)
      have k2_1 : w1 13 = .inl (gI G, 121, .inl kk) := by rw [a3]; exact vu_e (by decide) (vu_e (by decide) k2)
      have k3_1 : w1 14 = .inl (gI G, 121, .inl ks) := by rw [a3]; exact vu_e (by decide) (vu_e (by decide) k3)
      have k4_1 : w1 15 = .inl (gI G, 121, .inl kv) := by rw [a3]; exact vu_e (by decide) (vu_e (by decide) k4)
      have r1_1 : w1 11 = .inr (3, [.ref (gad G 1), .ref (gad G 12), .int (nI (lk)), .int (cl)]) := by rw [a3]; exact vu_e (by decide) (vu_e (by decide) r1)
      have h1_1 : w1 1 = .inr (0, [.ref (gad G 2), .int (nI (n + 1))]) := by rw [a3]; exact vu_e (by decide) vu_s
      have h2_1 : w1 2 = .inl (gI G, 132, .inl (apF f n)) := by rw [a3]; exact vu_s
      have hq : n < 12 := a1
      have hn1 : n + 1 ≤ 12 := a1
      refine w_put (C := RX4) (T := TX4) (N := 4) (v := .int (nI n)) 3 tyX4 hx hb hts inX4 tyX4_ok nmX4 hown hw hX hS (by decide) r1_1 rfl (by decide) (hts _ tw_112) rfl rfl (rfl) (rfl) (Nat.le_of_ble_eq_true rfl) dX4_readLaw_21 (fun H locs hw hS => ?_)
      obtain ⟨w5, ew5⟩ : ∃ wz9 : Nat → va_E, wz9 = va_up w1 11 (.inr (3, [.ref (gad G 1), .ref (gad G 12), .int (nI (lk)), .int (nI n)])) := ⟨_, rfl⟩
      have hw : Hw G w5 s H := by rw [ew5]; exact hw
      have k1_5 : w5 12 = .inr (7, [.ref (gad G 13), .ref (gad G 14), .ref (gad G 15), .int (nI kn)]) := by rw [ew5]; exact vu_e (by decide) k1_1
      have k2_5 : w5 13 = .inl (gI G, 121, .inl kk) := by rw [ew5]; exact vu_e (by decide) k2_1
      have k3_5 : w5 14 = .inl (gI G, 121, .inl ks) := by rw [ew5]; exact vu_e (by decide) k3_1
      have k4_5 : w5 15 = .inl (gI G, 121, .inl kv) := by rw [ew5]; exact vu_e (by decide) k4_1
      have r1_5 : w5 11 = .inr (3, [.ref (gad G 1), .ref (gad G 12), .int (nI (lk)), .int (nI n)]) := by rw [ew5]; exact vu_s
      have h1_5 : w5 1 = .inr (0, [.ref (gad G 2), .int (nI (n + 1))]) := by rw [ew5]; exact vu_e (by decide) h1_1
      have h2_5 : w5 2 = .inl (gI G, 132, .inl (apF f n)) := by rw [ew5]; exact vu_e (by decide) h2_1
      refine lv_aload_n hx hb dX4_readLaw_24 rfl (lv_at hl 0 rfl) ?_
      refine w_get (C := RX4) (T := TX4) (N := 4) 3 hx hb hts inX4 hown hw (by decide) r1_5 rfl (by decide) (hts _ tw_112) rfl dX4_readLaw_25 ?_
      refine lv_bipush (v := (-4)) hx hb dX4_readLaw_28 (by decide) ?_
      refine lv_icmp_ne (tgt := 35) hx hb dX4_readLaw_30 (by decide) (fun c30 => ?_) (fun q => absurd q (nI_ne4 (by omega)))
      refine lv_aload_n hx hb dX4_readLaw_35 rfl (lv_at hl 0 rfl) ?_
      refine lv_dup hx hb dX4_readLaw_36 rfl ?_
      refine w_get (C := RX4) (T := TX4) (N := 4) 2 hx hb hts inX4 hown hw (by decide) r1_5 rfl (by decide) (hts _ tw_111) rfl dX4_readLaw_37 ?_
      refine lv_iconst (v := 1) hx hb dX4_readLaw_40 (by decide) ?_
      refine lv_iadd hx hb dX4_readLaw_41 ?_
      refine tp (y := nI (lk + 1)) (nI_1 _) ?_
      refine w_put (C := RX4) (T := TX4) (N := 4) (v := .int (nI (lk + 1))) 2 tyX4 hx hb hts inX4 tyX4_ok nmX4 hown hw hX hS (by decide) r1_5 rfl (by decide) (hts _ tw_111) rfl rfl (rfl) (rfl) (Nat.le_of_ble_eq_true rfl) dX4_readLaw_42 (fun H locs hw hS => ?_)
      obtain ⟨w7, ew7⟩ : ∃ wz9 : Nat → va_E, wz9 = va_up w5 11 (.inr (3, [.ref (gad G 1), .ref (gad G 12), .int (nI (lk + 1)), .int (nI n)])) := ⟨_, rfl⟩
      have hw : Hw G w7 s H := by rw [ew7]; exact hw
      have k1_7 : w7 12 = .inr (7, [.ref (gad G 13), .ref (gad G 14), .ref (gad G 15), .int (nI kn)]) := by rw [ew7]; exact vu_e (by decide) k1_5
      have k2_7 : w7 13 = .inl (gI G, 121, .inl kk) := by rw [ew7]; exact vu_e (by decide) k2_5
      have k3_7 : w7 14 = .inl (gI G, 121, .inl ks) := by rw [ew7]; exact vu_e (by decide) k3_5
      have k4_7 : w7 15 = .inl (gI G, 121, .inl kv) := by rw [ew7]; exact vu_e (by decide) k4_5
      have r1_7 : w7 11 = .inr (3, [.ref (gad G 1), .ref (gad G 12), .int (nI (lk + 1)), .int (nI n)]) := by rw [ew7]; exact vu_s
      have h1_7 : w7 1 = .inr (0, [.ref (gad G 2), .int (nI (n + 1))]) := by rw [ew7]; exact vu_e (by decide) h1_5
      have h2_7 : w7 2 = .inl (gI G, 132, .inl (apF f n)) := by rw [ew7]; exact vu_e (by decide) h2_5
      have hlk1 : lk + 1 < kn := hE lk hlk (isW_ne c8)
      refine lv_aload_n hx hb dX4_readLaw_45 rfl (lv_at hl 0 rfl) ?_
      refine cQi (rV (As := []) ⟨hx, hb, hml, hown, hts⟩ hw (k_X4_readTest l k1_7 k2_7 k3_7 k4_7 hkn r1_7 h1_7 h2_7 hT hE hlk1 hn1 hq) (cv_X4_readTest hts tw_737 rfl rfl ⟨Nat.le_of_ble_eq_true rfl, Nat.le_of_ble_eq_true rfl⟩) (by decide) r1_7 rfl rfl hl.1 rfl (by first | exact Nat.le_of_ble_eq_true rfl | decide) dX4_readLaw_46 ⟨Nat.zero_le _, Nat.zero_le _⟩) hw hS (fun r46 w8 H locs hp46 hw hS => ?_)
      obtain ⟨b46, kz46, f46, hX46, hl46, rfl, hp46⟩ := hp46
      have k1_8 : w8 12 = .inr (7, [.ref (gad G 13), .ref (gad G 14), .ref (gad G 15), .int (nI kn)]) := by rw [hp46]; exact D2_o (by decide) (by decide) k1_7
      have k2_8 : w8 13 = .inl (gI G, 121, .inl kk) := by rw [hp46]; exact D2_o (by decide) (by decide) k2_7
      have k3_8 : w8 14 = .inl (gI G, 121, .inl ks) := by rw [hp46]; exact D2_o (by decide) (by decide) k3_7
      have k4_8 : w8 15 = .inl (gI G, 121, .inl kv) := by rw [hp46]; exact D2_o (by decide) (by decide) k4_7
      have r1_8 : w8 11 = .inr (3, [.ref (gad G 1), .ref (gad G 12), .int (nI (kz46)), .int (nI n)]) := by rw [hp46]; exact D2_j
      have h1_8 : w8 1 = .inr (0, [.ref (gad G 2), .int (nI (n + 1))]) := by rw [hp46]; exact D2_o (by decide) (by decide) h1_7
      have h2_8 : w8 2 = .inl (gI G, 132, .inl f46) := by rw [hp46]; exact D2_i (by decide)
      refine zb_eq (tgt := 86) hx hb dX4_readLaw_49 (by decide) (fun c49 => ?_) (fun c49 => ?_)
      · refine lv_iconst (v := 0) hx hb dX4_readLaw_86 (by decide) ?_
        exact re_Q hx hb hr hlocks (rfl) hw hS dX4_readLaw_87 (⟨false, kz46, f46, n + 1, nI n, rLaw_t c8 a1 (by rw [rLawB, bnd_f hX46 c49]), hl46, hn1, rfl, by rw [hp46, ew7, ew5, a3, D2_id (i := 2) (j := 11) (c := va_up (va_up c 1 _) 2 _) vu_s (vu_e (by decide) (vu_e (by decide) r1))]; simp only [r1p, r2p, r3p, r4p, r5p]⟩)
      · refine lv_aload_n hx hb dX4_readLaw_52 rfl (lv_at hl 0 rfl) ?_
        refine lv_bipush (v := 10) hx hb dX4_readLaw_53 (by decide) ?_
        refine cQi (rV (As := [_]) ⟨hx, hb, hml, hown, hts⟩ hw (k_X4_takeWord l k1_8 k2_8 k3_8 k4_8 hkn r1_8 h1_8 h2_8 hT hE hl46 hn1 hq (w := 10)) (cv_X4_takeWord hts tw_741 rfl rfl ⟨Nat.le_of_ble_eq_true rfl, Nat.le_of_ble_eq_true rfl⟩) (by decide) r1_8 rfl rfl hl.1 rfl (by first | exact Nat.le_of_ble_eq_true rfl | decide) dX4_readLaw_55 ⟨Nat.zero_le _, Nat.zero_le _⟩) hw hS (fun r55 w9 H locs hp55 hw hS => ?_)
        obtain ⟨b55, kz55, f55, hX55, hl55, rfl, hp55⟩ := hp55
        have k1_9 : w9 12 = .inr (7, [.ref (gad G 13), .ref (gad G 14), .ref (gad G 15), .int (nI kn)]) := by rw [hp55]; exact D2_o (by decide) (by decide) k1_8
        have k2_9 : w9 13 = .inl (gI G, 121, .inl kk) := by rw [hp55]; exact D2_o (by decide) (by decide) k2_8
        have k3_9 : w9 14 = .inl (gI G, 121, .inl ks) := by rw [hp55]; exact D2_o (by decide) (by decide) k3_8
        have k4_9 : w9 15 = .inl (gI G, 121, .inl kv) := by rw [hp55]; exact D2_o (by decide) (by decide) k4_8
        have r1_9 : w9 11 = .inr (3, [.ref (gad G 1), .ref (gad G 12), .int (nI (kz55)), .int (nI n)]) := by rw [hp55]; exact D2_j
        have h1_9 : w9 1 = .inr (0, [.ref (gad G 2), .int (nI (n + 1))]) := by rw [hp55]; exact D2_o (by decide) (by decide) h1_8
        have h2_9 : w9 2 = .inl (gI G, 132, .inl f55) := by rw [hp55]; exact D2_i (by decide)
        refine zb_eq (tgt := 86) hx hb dX4_readLaw_58 (by decide) (fun c58 => ?_) (fun c58 => ?_)
        · refine lv_iconst (v := 0) hx hb dX4_readLaw_86 (by decide) ?_
          exact re_Q hx hb hr hlocks (rfl) hw hS dX4_readLaw_87 (⟨false, kz55, f55, n + 1, nI n, rLaw_t c8 a1 (by rw [rLawB, bnd_t hX46 c49, bnd_f hX55 c58]), hl55, hn1, rfl, by rw [hp55, hp46, ew7, ew5, a3, D2_id (i := 2) (j := 11) (c := va_up (va_up c 1 _) 2 _) vu_s (vu_e (by decide) (vu_e (by decide) r1))]; simp only [r1p, r2p, r3p, r4p, r5p]⟩)
        · refine lv_aload_n hx hb dX4_readLaw_61 rfl (lv_at hl 0 rfl) ?_
          refine cQi (rV (As := []) ⟨hx, hb, hml, hown, hts⟩ hw (k_X4_readGrant l k1_9 k2_9 k3_9 k4_9 hkn r1_9 h1_9 h2_9 hT hE hl55 hn1 hq) (cv_X4_readGrant hts tw_758 rfl rfl ⟨Nat.le_of_ble_eq_true rfl, Nat.le_of_ble_eq_true rfl⟩) (by decide) r1_9 rfl rfl hl.1 rfl (by first | exact Nat.le_of_ble_eq_true rfl | decide) dX4_readLaw_62 ⟨Nat.zero_le _, Nat.zero_le _⟩) hw hS (fun r62 w10 H locs hp62 hw hS => ?_)
          obtain ⟨b62, kz62, f62, hX62, hl62, rfl, hp62⟩ := hp62
          have k1_10 : w10 12 = .inr (7, [.ref (gad G 13), .ref (gad G 14), .ref (gad G 15), .int (nI kn)]) := by rw [hp62]; exact D2_o (by decide) (by decide) k1_9
          have k2_10 : w10 13 = .inl (gI G, 121, .inl kk) := by rw [hp62]; exact D2_o (by decide) (by decide) k2_9
          have k3_10 : w10 14 = .inl (gI G, 121, .inl ks) := by rw [hp62]; exact D2_o (by decide) (by decide) k3_9
          have k4_10 : w10 15 = .inl (gI G, 121, .inl kv) := by rw [hp62]; exact D2_o (by decide) (by decide) k4_9
          have r1_10 : w10 11 = .inr (3, [.ref (gad G 1), .ref (gad G 12), .int (nI (kz62)), .int (nI n)]) := by rw [hp62]; exact D2_j
          have h1_10 : w10 1 = .inr (0, [.ref (gad G 2), .int (nI (n + 1))]) := by rw [hp62]; exact D2_o (by decide) (by decide) h1_9
          have h2_10 : w10 2 = .inl (gI G, 132, .inl f62) := by rw [hp62]; exact D2_i (by decide)
          refine zb_eq (tgt := 86) hx hb dX4_readLaw_65 (by decide) (fun c65 => ?_) (fun c65 => ?_)
          · refine lv_iconst (v := 0) hx hb dX4_readLaw_86 (by decide) ?_
            exact re_Q hx hb hr hlocks (rfl) hw hS dX4_readLaw_87 (⟨false, kz62, f62, n + 1, nI n, rLaw_t c8 a1 (by rw [rLawB, bnd_t hX46 c49, bnd_t hX55 c58, bnd_f hX62 c65]), hl62, hn1, rfl, by rw [hp62, hp55, hp46, ew7, ew5, a3, D2_id (i := 2) (j := 11) (c := va_up (va_up c 1 _) 2 _) vu_s (vu_e (by decide) (vu_e (by decide) r1))]; simp only [r1p, r2p, r3p, r4p, r5p]⟩)
          · refine lv_aload_n hx hb dX4_readLaw_68 rfl (lv_at hl 0 rfl) ?_
            refine cQi (rV (As := []) ⟨hx, hb, hml, hown, hts⟩ hw (k_X4_readSpan l k1_10 k2_10 k3_10 k4_10 hkn r1_10 h1_10 h2_10 hT hE hl62 hn1 hq) (cv_X4_readSpan hts tw_765 rfl rfl ⟨Nat.le_of_ble_eq_true rfl, Nat.le_of_ble_eq_true rfl⟩) (by decide) r1_10 rfl rfl hl.1 rfl (by first | exact Nat.le_of_ble_eq_true rfl | decide) dX4_readLaw_69 ⟨Nat.zero_le _, Nat.zero_le _⟩) hw hS (fun r69 w11 H locs hp69 hw hS => ?_)
            obtain ⟨b69, kz69, f69, hX69, hl69, rfl, hp69⟩ := hp69
            have k1_11 : w11 12 = .inr (7, [.ref (gad G 13), .ref (gad G 14), .ref (gad G 15), .int (nI kn)]) := by rw [hp69]; exact D2_o (by decide) (by decide) k1_10
            have k2_11 : w11 13 = .inl (gI G, 121, .inl kk) := by rw [hp69]; exact D2_o (by decide) (by decide) k2_10
            have k3_11 : w11 14 = .inl (gI G, 121, .inl ks) := by rw [hp69]; exact D2_o (by decide) (by decide) k3_10
            have k4_11 : w11 15 = .inl (gI G, 121, .inl kv) := by rw [hp69]; exact D2_o (by decide) (by decide) k4_10
            have r1_11 : w11 11 = .inr (3, [.ref (gad G 1), .ref (gad G 12), .int (nI (kz69)), .int (nI n)]) := by rw [hp69]; exact D2_j
            have h1_11 : w11 1 = .inr (0, [.ref (gad G 2), .int (nI (n + 1))]) := by rw [hp69]; exact D2_o (by decide) (by decide) h1_10
            have h2_11 : w11 2 = .inl (gI G, 132, .inl f69) := by rw [hp69]; exact D2_i (by decide)
            refine zb_eq (tgt := 86) hx hb dX4_readLaw_72 (by decide) (fun c72 => ?_) (fun c72 => ?_)
            · refine lv_iconst (v := 0) hx hb dX4_readLaw_86 (by decide) ?_
              exact re_Q hx hb hr hlocks (rfl) hw hS dX4_readLaw_87 (⟨false, kz69, f69, n + 1, nI n, rLaw_t c8 a1 (by rw [rLawB, bnd_t hX46 c49, bnd_t hX55 c58, bnd_t hX62 c65, bnd_f hX69 c72]), hl69, hn1, rfl, by rw [hp69, hp62, hp55, hp46, ew7, ew5, a3, D2_id (i := 2) (j := 11) (c := va_up (va_up c 1 _) 2 _) vu_s (vu_e (by decide) (vu_e (by decide) r1))]; simp only [r1p, r2p, r3p, r4p, r5p]⟩)
            · refine lv_aload_n hx hb dX4_readLaw_75 rfl (lv_at hl 0 rfl) ?_
              refine cQi (rV (As := []) ⟨hx, hb, hml, hown, hts⟩ hw (k_X4_readException l k1_11 k2_11 k3_11 k4_11 hkn r1_11 h1_11 h2_11 hT hE hl69 hn1 hq) (cv_X4_readException hts tw_770 rfl rfl ⟨Nat.le_of_ble_eq_true rfl, Nat.le_of_ble_eq_true rfl⟩) (by decide) r1_11 rfl rfl hl.1 rfl (by first | exact Nat.le_of_ble_eq_true rfl | decide) dX4_readLaw_76 ⟨Nat.zero_le _, Nat.zero_le _⟩) hw hS (fun r76 w12 H locs hp76 hw hS => ?_)
              obtain ⟨b76, kz76, f76, hX76, hl76, rfl, hp76⟩ := hp76
              have k1_12 : w12 12 = .inr (7, [.ref (gad G 13), .ref (gad G 14), .ref (gad G 15), .int (nI kn)]) := by rw [hp76]; exact D2_o (by decide) (by decide) k1_11
              have k2_12 : w12 13 = .inl (gI G, 121, .inl kk) := by rw [hp76]; exact D2_o (by decide) (by decide) k2_11
              have k3_12 : w12 14 = .inl (gI G, 121, .inl ks) := by rw [hp76]; exact D2_o (by decide) (by decide) k3_11
              have k4_12 : w12 15 = .inl (gI G, 121, .inl kv) := by rw [hp76]; exact D2_o (by decide) (by decide) k4_11
              have r1_12 : w12 11 = .inr (3, [.ref (gad G 1), .ref (gad G 12), .int (nI (kz76)), .int (nI n)]) := by rw [hp76]; exact D2_j
              have h1_12 : w12 1 = .inr (0, [.ref (gad G 2), .int (nI (n + 1))]) := by rw [hp76]; exact D2_o (by decide) (by decide) h1_11
              have h2_12 : w12 2 = .inl (gI G, 132, .inl f76) := by rw [hp76]; exact D2_i (by decide)
              refine zb_eq (tgt := 86) hx hb dX4_readLaw_79 (by decide) (fun c79 => ?_) (fun c79 => ?_)
              · refine lv_iconst (v := 0) hx hb dX4_readLaw_86 (by decide) ?_
                exact re_Q hx hb hr hlocks (rfl) hw hS dX4_readLaw_87 (⟨false, kz76, f76, n + 1, nI n, rLaw_t c8 a1 (by rw [rLawB, bnd_t hX46 c49, bnd_t hX55 c58, bnd_t hX62 c65, bnd_t hX69 c72, hX76, c79]), hl76, hn1, rfl, by rw [hp76, hp69, hp62, hp55, hp46, ew7, ew5, a3, D2_id (i := 2) (j := 11) (c := va_up (va_up c 1 _) 2 _) vu_s (vu_e (by decide) (vu_e (by decide) r1))]; simp only [r1p, r2p, r3p, r4p, r5p]⟩)
              · skip
                refine lv_iconst (v := 1) hx hb dX4_readLaw_82 (by decide) ?_
                refine lv_goto (tgt := 87) hx hb dX4_readLaw_83 (by decide) ?_
                exact re_Q hx hb hr hlocks (rfl) hw hS dX4_readLaw_87 (⟨true, kz76, f76, n + 1, nI n, rLaw_t c8 a1 (by rw [rLawB, bnd_t hX46 c49, bnd_t hX55 c58, bnd_t hX62 c65, bnd_t hX69 c72, hX76, c79]), hl76, hn1, rfl, by rw [hp76, hp69, hp62, hp55, hp46, ew7, ew5, a3, D2_id (i := 2) (j := 11) (c := va_up (va_up c 1 _) 2 _) vu_s (vu_e (by decide) (vu_e (by decide) r1))]; simp only [r1p, r2p, r3p, r4p, r5p]⟩)
  · refine lv_iconst (v := 0) hx hb dX4_readLaw_11 (by decide) ?_
    exact re_Q hx hb hr hlocks (rfl) hw hS dX4_readLaw_12 (⟨false, lk, f, n, cl, by rw [rLaw, if_neg (by simp [c8])], hlk, hn, rfl, by rw [up_id h1]; exact D2_id h2 r1⟩)
