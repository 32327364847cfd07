/-! WHAT THE CALLS ANSWER, the same for the class and the reference -/
theorem isP_t {p : Int32} (h : isP p = true) : ∃ p0 : Nat, p0 < 25600000 ∧ p = nI p0 := by
  unfold isP wn at h
  simp only [Bool.and_eq_true, Bool.not_eq_true', decide_eq_false_iff_not] at h
  rcases pk_ix p (n := 25600000) (by omega) with z | z | z
  · exact absurd z h.1
  · exact absurd (Int32.lt_of_lt_of_le (show (25599999 : Int32) < nI 25600000 by decide) z) h.2
  · exact z
theorem isDy_t {d : Int32} (h : isDy d = true) : ∃ d0 : Nat, d0 ≤ 999 ∧ d = nI d0 := by
  unfold isDy wn at h
  simp only [Bool.and_eq_true, Bool.not_eq_true', decide_eq_false_iff_not] at h
  rcases pk_ix d (n := 1000) (by omega) with z | z | ⟨q, z, e⟩
  · exact absurd z h.1
  · exact absurd (Int32.lt_of_lt_of_le (show (999 : Int32) < nI 1000 by decide) z) h.2
  · exact ⟨q, by omega, e⟩
theorem wn_nI {x : Int32} {a b : Nat} (ha : a < 2 ^ 31) (hb : b < 2 ^ 31 - 1) (h : wn x (nI a) (nI b) = true) : ∃ q : Nat, a ≤ q ∧ q ≤ b ∧ x = nI q := by
  unfold wn at h
  simp only [Bool.and_eq_true, Bool.not_eq_true', decide_eq_false_iff_not] at h
  rcases pk_ix x (n := b + 1) (by omega) with z | z | ⟨q, z, rfl⟩
  · exact absurd (Int32.lt_of_lt_of_le z (nI_pos' (n := a) ha)) h.1
  · exact absurd (Int32.lt_of_lt_of_le (nI_lt (show b < b + 1 by omega) (by omega)) z) h.2
  · refine ⟨q, ?_, by omega, rfl⟩
    rcases Nat.lt_or_ge q a with r | r
    · exact absurd (nI_lt r ha) h.1
    · exact r
theorem isSh_s {t : Int32} (h : isSh t = true) : ∃ s : Nat, s < 4 ∧ t = nI s := by
  obtain ⟨q, -, h2, e⟩ := wn_nI (a := 0) (b := 3) (by decide) (by decide) h
  exact ⟨q, by omega, e⟩
theorem isSh_t {t : Int32} (h : isSh t = true) : t = 0 ∨ t = 1 ∨ t = 2 ∨ t = 3 := by
  obtain ⟨s, hs, rfl⟩ := isSh_s h
  rcases (show s = 0 ∨ s = 1 ∨ s = 2 ∨ s = 3 by omega) with rfl | rfl | rfl | rfl
  · exact Or.inl rfl
  · exact Or.inr (Or.inl rfl)
  · exact Or.inr (Or.inr (Or.inl rfl))
  · exact Or.inr (Or.inr (Or.inr rfl))
theorem sz_ge2 {t : Int32} (ht : t = 0 ∨ t = 1 ∨ t = 2 ∨ t = 3) : 2 ≤ szN t := by rcases ht with rfl | rfl | rfl | rfl <;> decide
theorem lmo_congr {g g' : Nat → Int32} {m : Nat} (h : ∀ v, v < m → g v = g' v) : ∀ i, i ≤ m → lmo g i = lmo g' i
  | 0, _ => rfl
  | 1, _ => by rw [lmo_1, lmo_1]
  | i + 2, hi => by
    have e := lmo_congr h (i + 1) (by omega)
    have hl := lmo_lt g' (i + 1) (by omega)
    show (if g (lmo g (i + 1)) < g (i + 1) then i + 1 else lmo g (i + 1)) = (if g' (lmo g' (i + 1)) < g' (i + 1) then i + 1 else lmo g' (i + 1))
    rw [e, h (i + 1) (by omega), h _ (by omega)]
theorem cntU_congr {P P' : Nat → Bool} {m : Nat} (h : ∀ v, v < m → P v = P' v) : ∀ i, i ≤ m → cntU P i = cntU P' i
  | 0, _ => rfl
  | i + 1, hi => by rw [cntU, cntU, cntU_congr h i (by omega), h i (by omega)]
theorem fstU_congr {P P' : Nat → Bool} {m : Nat} (h : ∀ v, v < m → P v = P' v) : ∀ i, i ≤ m → fstU P i = fstU P' i
  | 0, _ => rfl
  | i + 1, hi => by rw [fstU, fstU, fstU_congr h i (by omega), h i (by omega)]
theorem JP_congr {g g' : Nat → Int32} {m : Nat} (h : ∀ v, v < m → g v = g' v) : ∀ v, v < m → JP g v = JP g' v := fun v hv => by
  unfold JP
  by_cases h1 : 1 ≤ v
  · rw [h v hv, h (v - 1) (by omega)]
  · simp [h1]
theorem BP_congr {g g' : Nat → Int32} {m : Nat} (h : ∀ v, v < m → g v = g' v) : ∀ v, v < m → BP g v = BP g' v := fun v hv => by
  unfold BP
  by_cases h1 : 2 ≤ v
  · rw [h v hv, h (v - 1) (by omega), h (v - 2) (by omega)]
  · simp [h1]
theorem chN_congr {g g' : Nat → Int32} {m v : Nat} (h : ∀ v, v < m → g v = g' v) (hv : v < m) : chN g v = chN g' v := by
  unfold chN
  rw [h v hv, h (v - 1) (by omega)]
theorem CP_congr {g g' : Nat → Int32} {m : Nat} (h : ∀ v, v < m → g v = g' v) : ∀ v, v < m → (decide (1 ≤ v) && decide (0 < chN g v)) = (decide (1 ≤ v) && decide (0 < chN g' v)) := fun v hv => by rw [chN_congr h hv]
theorem chh_congr {g g' : Nat → Int32} {m : Nat} (hm : m < 2 ^ 31) (h : ∀ v, v < m → g v = g' v) (x : Int32) : chh g m x = chh g' m x := by
  unfold chh
  by_cases h1 : x < 1
  · rw [if_pos h1, if_pos h1]
  · by_cases h2 : x < nI m
    · rw [if_neg h1, if_neg h1, if_pos h2, if_pos h2]
      apply chN_congr h
      rcases pk_ix x (n := m) hm with z | z | ⟨q, z, rfl⟩
      · exact absurd (Int32.lt_trans z (by decide)) h1
      · exact absurd h2 (Int32.not_lt.mpr z)
      · rw [nI_clamp (by omega)]; exact z
    · rw [if_neg h1, if_neg h1, if_neg h2, if_neg h2]
theorem hcl_congr {g g' : Nat → Int32} {m : Nat} (hm : m < 2 ^ 31) (h : ∀ v, v < m → g v = g' v) : ∀ i, i ≤ m → hcl g m i = hcl g' m i
  | 0, _ => rfl
  | i + 1, hi => by rw [hcl, hcl, hcl_congr hm h i (by omega), chh_congr hm h, chN_congr h (show i < m by omega)]
theorem lvl_congr {g g' : Nat → Int32} {m : Nat} (h : ∀ v, v < m → g v = g' v) : ∀ i, i ≤ m → lvl g i = lvl g' i
  | 0, _ => rfl
  | i + 1, hi => by rw [lvl, lvl, lvl_congr h i (by omega), JP_congr h i (by omega)]
theorem far_congr {g g' : Nat → Int32} {m : Nat} (h : ∀ v, v < m → g v = g' v) : ∀ i, i ≤ m → far g i = far g' i
  | 0, _ => rfl
  | i + 1, hi => by rw [far, far, far_congr h i (by omega), h i (by omega)]
def og (f : Nat → Int32) (n p : Nat) (d t : Int32) (v : Nat) : Int32 := ocm f n (wthN p t v) d
def tg (f : Nat → Int32) (n : Nat) (f1 : Nat → Int32) (n1 p : Nat) (d t : Int32) (v : Nat) : Int32 := ocm f n (wthN p t v) d - ocm f1 n1 (wthN p t v) d
theorem flF_og {f : Nat → Int32} {n p : Nat} {d t : Int32} {g : Nat → Int32} {m : Nat} : ∀ v, v < m → flF f n p d t g m v = og f n p d t v := fun v hv => if_pos hv
theorem lsF_tg {f f1 : Nat → Int32} {n n1 p : Nat} {d t : Int32} {g : Nat → Int32} {m : Nat} : ∀ v, v < m → lsF f1 n1 p d t (flF f n p d t g m) m v = tg f n f1 n1 p d t v := fun v hv => by
  unfold lsF
  rw [if_pos hv, flF_og v hv]
  rfl
def pN (p : Int32) : Nat := p.toNatClampNeg
theorem pN_nI {p : Nat} (h : p < 25600000) : pN (nI p) = p := nI_clamp (by omega)
def CPg (g : Nat → Int32) (v : Nat) : Bool := decide (1 ≤ v) && decide (0 < chN g v)
def spBest (f : Nat → Int32) (n : Nat) (p d t w : Int32) : Int32 := if isP p && isDy d && isSh t && wn w 0 1 then (if w = 0 then nI (lmo (og f n (pN p) d t) (szN t)) else og f n (pN p) d t (lmo (og f n (pN p) d t) (szN t))) else -2
def spJumps (f : Nat → Int32) (n : Nat) (p d t w : Int32) : Int32 :=
  if isP p && isDy d && isSh t then
    (if w = 0 then nI (cntU (JP (og f n (pN p) d t)) (szN t)) else if w = 1 then fstU (JP (og f n (pN p) d t)) (szN t) else if w = 2 then nI (cntU (CPg (og f n (pN p) d t)) (szN t))
     else if w = 3 then hcl (og f n (pN p) d t) (szN t) (szN t) else if w = 4 then chh (og f n (pN p) d t) (szN t) (hcl (og f n (pN p) d t) (szN t) (szN t)) else -2) else -2
def spBends (f : Nat → Int32) (n : Nat) (p d t w : Int32) : Int32 :=
  if isP p && isDy d && isSh t then
    (if w = 0 then nI (cntU (BP (og f n (pN p) d t)) (szN t)) else if w = 1 then fstU (BP (og f n (pN p) d t)) (szN t) else if w = 2 then (lvl (og f n (pN p) d t) (szN t)).1 else -2) else -2
def spEnough (f : Nat → Int32) (n : Nat) (p d t w : Int32) : Int32 := if isP p && isDy d && isSh t && !decide (w < 0) then fstU (fun v => !decide (og f n (pN p) d t v < w)) (szN t) else -2
def spTouches (f : Nat → Int32) (n : Nat) (f1 : Nat → Int32) (n1 : Nat) (p d t w : Int32) : Int32 :=
  if isP p && isDy d && isSh t then
    (if w = 0 then nI (cntU (fun v => decide (tg f n f1 n1 (pN p) d t v ≠ 0)) (szN t)) else if w = 1 then fstU (fun v => decide (tg f n f1 n1 (pN p) d t v ≠ 0)) (szN t)
     else if w = 2 then far (tg f n f1 n1 (pN p) d t) (szN t) else if w = 3 then nI (cntU (fun v => decide (tg f n f1 n1 (pN p) d t v < 0)) (szN t)) else -2) else -2
def spOutcome (f : Nat → Int32) (n : Nat) (p d : Int32) : Int32 := if isP p && isDy d then ocm f n (pN p) d else -2
def hdM (f : Nat → Int32) (n p : Nat) (d : Int32) : Int32 := mskU (hbf f p d) n
def stM (f : Nat → Int32) (n p : Nat) (d : Int32) : Int32 := (stD f (hbf f p d) n n).1
def cnM (f : Nat → Int32) (n p : Nat) (d : Int32) (c : Nat) : Bool := cnb f (hdM f n p d) (stM f n p d) c
def spReason (f : Nat → Int32) (n : Nat) (p d : Int32) : Int32 := if isP p && isDy d then mskU (cnM f n (pN p) d) n else -2
def spHold (f : Nat → Int32) (n : Nat) (p d w : Int32) : Int32 := if isP p && isDy d && wn w 0 1 then (if w = 0 then hdM f n (pN p) d else stM f n (pN p) d) else -2
def spWhy (f : Nat → Int32) (n : Nat) (p d x w : Int32) : Int32 :=
  if isP p && isDy d && hasN n x then
    (if w = 0 then (if cnM f n (pN p) d x.toNatClampNeg then wor f (pN p) x.toNatClampNeg else 0)
     else if w = 1 then (if spn f d x.toNatClampNeg = false then 1 else if hbf f (pN p) d x.toNatClampNeg = false then 2 else if isn (stM f n (pN p) d) x = false then 3 else if cnM f n (pN p) d x.toNatClampNeg = true then 0 else 4)
     else if w = 2 then fstU (lex f x.toNatClampNeg (stM f n (pN p) d)) n else -2) else -2
def spTouched (f : Nat → Int32) (n : Nat) (f1 : Nat → Int32) (n1 : Nat) (p d : Int32) : Int32 := if isP p && isDy d then ocm f n (pN p) d - ocm f1 n1 (pN p) d else -2
def spProfile (a b d q h : Int32) : Int32 := if wn a 0 99 && wn b 0 99 && wn d 0 9 && wn q 0 7 && wn h 0 31 then a + 100 * b + 10000 * d + 100000 * q + 800000 * h else -2
def spTrait (p t : Int32) : Int32 := if isP p && wn t 0 4 then nI (trN (pN p) t) else -2
def ndT (h : Int32) : Bool := decide (h = 1) || decide (h = 2) || decide (h = 4)
def tOK (n : Nat) (x h t lo hi : Int32) : Bool := hasN n x && wn h 0 5 && wn t 0 (if ndT h then 3 else 0) && wn lo 0 (if h = 3 then 31 else 99) && wn hi 0 (if h = 3 then 31 else 99)
def gOK (n : Nat) (x s t a b : Int32) : Bool := hasN n x && wn s 0 4 && wn t 0 (if ndT s then 3 else 0) && wn a 0 999 && wn b (if s = 1 then 1 else 0) (if s = 1 then 99 else if s = 2 then 99 else 0)
def sOK (n : Nat) (x a b : Int32) : Bool := hasN n x && isDy a && isDy b && !decide (b < a)
def eOK (n : Nat) (x d : Int32) : Bool := hasN n x && wn d (-1) (x - 1)
def u4 (f : Nat → Int32) (k : Nat) (a b d e : Int32) : Nat → Int32 := upd (upd (upd (upd f k a) (k + 1) b) (k + 2) d) (k + 3) e
def u2 (f : Nat → Int32) (k : Nat) (a b : Int32) : Nat → Int32 := upd (upd f k a) (k + 1) b
/-- the class's way through the days: from edge to edge -/
def untE (f : Nat → Int32) (n p : Nat) (tot : Int32) : Nat → Int32 → Int32
  | 0, _ => -1
  | k + 1, nx => if 999 < nx then -1 else if ocm f n p nx = tot then untE f n p tot k (nxe f nx n) else nx
def drw (P : Nat → Bool) (z : Int32) : Nat → Nat × Int32
  | 0 => (0, z)
  | i + 1 => (if P (zp (drw P z i).2) then (drw P z i).1 + 1 else (drw P z i).1, zn5 (drw P z i).2)
def dP (f : Nat → Int32) (n : Nat) (f1 : Nat → Int32) (n1 : Nat) (d : Int32) (p : Nat) : Bool := decide (ocm f n p d ≠ ocm f1 n1 p d)
def byt (v : Int32) (i : Nat) : Int32 := (v.toUInt32 >>> ((8 * nI i).toUInt32 &&& Int32.toUInt32 31)).toInt32 &&& 255
def fdF (tf : Nat → Int32) (tn : Nat) (v : Int32) (n j : Nat) : Nat → Int32 := fun q => if tn ≤ q ∧ q < tn + j then byt v (n - 1 - (q - tn)) else tf q
theorem fdF_0 (tf : Nat → Int32) (tn : Nat) (v : Int32) (n : Nat) : fdF tf tn v n 0 = tf := by funext q; unfold fdF; rw [if_neg (by omega)]
theorem fdF_s (tf : Nat → Int32) (tn : Nat) (v : Int32) (n j : Nat) : upd (fdF tf tn v n j) (tn + j) (byt v (n - 1 - j)) = fdF tf tn v n (j + 1) := by
  funext q
  unfold upd fdF
  by_cases h : q = tn + j
  · rw [if_pos h, if_pos (by omega), show q - tn = j by omega]
  · rw [if_neg h]
    by_cases h2 : tn ≤ q ∧ q < tn + j
    · rw [if_pos h2, if_pos (by omega)]
    · rw [if_neg h2, if_neg (by omega)]
/-- the line is only looked at within a call -/
def lnE (G : GT) (c c9 : Nat → va_E) : Prop := ∃ (m : Nat) (g : Nat → Int32), m ≤ 100 ∧ c9 = va_up (va_up c 16 (.inr (2, [.ref (gad G 17), .int (nI m)]))) 17 (.inl (gI G, 100, .inl g))
theorem lnE_id {G : GT} {c : Nat → va_E} {m : Nat} {g : Nat → Int32} (l1 : c 16 = .inr (2, [.ref (gad G 17), .int (nI m)])) (l2 : c 17 = .inl (gI G, 100, .inl g)) (hm : m ≤ 100) : lnE G c c := ⟨m, g, hm, by rw [up_id l1, up_id l2]⟩

set_option maxHeartbeats 4000000 in
set_option maxRecDepth 100000 in
theorem k_X10_clause (l : Launch) {G : GT} {c : Nat → va_E} {im : Bool} {iz : Int32} (o1 : c 0 = .inr (8, [.ref (gad G 1), .ref (gad G 3), .ref (gad G 5), .ref (gad G 8), .ref (gad G 9), .ref (gad G 11), .ref (gad G 16), .ref (gad G 18), .int (bi im), .ref (gad G 27), .ref (gad G 29), .int iz])) {n : Nat} {f : Nat → Int32} (h1 : c 1 = .inr (0, [.ref (gad G 2), .int (nI n)])) (h2 : c 2 = .inl (gI G, 132, .inl f)) (hn : n ≤ 12)  : Met l yX10_clause (wv yX10_clause cX10_clause 1 (some .int)) ({ frames := 2, cells := 0, slots := 0, locals := 45 } : Room) (va_Pc [.ref (gad G 0)] (fun U => Hw G c U U.heap)) (va_Qi (fun r (c9 : Nat → va_E) => (n = 12 ∧ r = -4 ∧ c9 = c) ∨ (n < 12 ∧ r = nI n ∧ c9 = va_up (va_up c 1 (.inr (0, [.ref (gad G 2), .int (nI (n + 1))]))) 2 (.inl (gI G, 132, .inl (apF f n))))) (fun c9 t => Hw G c9 t t.heap) (gA G)) 0 0 (gA G) := by
  refine en (by decide +kernel) (by first | exact Nat.le_of_ble_eq_true rfl | decide) ?_
  intro p e s m below meth cd ls hx hb hr hml hown hts hlocks hnm hw hl
  have hl : lv_has ls 1 [(0, .ref (gad G 0))] := hl
  have hX : Sw G s s.heap := hw.2.2.2.2.2
  have hS : va_S (gA G) s.heap s.heap [] := va_S.rf
  obtain ⟨H, hH⟩ : ∃ wz9, wz9 = s.heap := ⟨_, rfl⟩
  obtain ⟨locs, hlocs⟩ : ∃ wz9 : List Loc, wz9 = [] := ⟨_, rfl⟩
  have hw : Hw G c s H := by rw [hH]; exact hw
  have hS : va_S (gA G) s.heap H locs := by rw [hH, hlocs]; exact hS
  suffices hgo : W p l e ({ frames := 2, cells := 0, slots := 0, locals := 45 } : Room) s m (([.ref (gad G 0)] : List Value).toArray) below meth cd H locs 0 0 (MQ below (va_Qi (fun r (c9 : Nat → va_E) => (n = 12 ∧ r = -4 ∧ c9 = c) ∨ (n < 12 ∧ r = nI n ∧ c9 = va_up (va_up c 1 (.inr (0, [.ref (gad G 2), .int (nI (n + 1))]))) 2 (.inl (gI G, 132, .inl (apF f n))))) (fun c9 t => Hw G c9 t t.heap) (gA G)) ([.ref (gad G 0)] : List Value).toArray s 0 0 (gA G)) (F0 m 0 ls []) by rw [hH, hlocs] at hgo; exact hgo
  refine lv_aload_n hx hb dX10_clause_0 rfl (lv_at hl 0 rfl) ?_
  refine w_get (C := RX10) (T := TX10) (N := 12) 0 hx hb hts inX10 hown hw (by decide) o1 rfl (by decide) (hts _ tw_152) rfl dX10_clause_1 ?_
  refine cQi (rV (As := []) ⟨hx, hb, hml, hown, hts⟩ hw (k_X1_append l (by decide) (by decide) h1 h2 hn) (cv_X1_append hts tw_193 rfl rfl ⟨Nat.le_of_ble_eq_true rfl, Nat.le_of_ble_eq_true rfl⟩) (by decide) h1 rfl rfl hl.1 rfl (by first | exact Nat.le_of_ble_eq_true rfl | decide) dX10_clause_4 ⟨Nat.zero_le _, Nat.zero_le _⟩) hw hS (fun r4 w1 H locs hp4 hw hS => ?_)
  exact re_Q hx hb hr hlocks (rfl) hw hS dX10_clause_7 (hp4)
set_option maxHeartbeats 4000000 in
set_option maxRecDepth 100000 in
theorem k_X10_test (l : Launch) {G : GT} {c : Nat → va_E} {im : Bool} {iz : Int32} (o1 : c 0 = .inr (8, [.ref (gad G 1), .ref (gad G 3), .ref (gad G 5), .ref (gad G 8), .ref (gad G 9), .ref (gad G 11), .ref (gad G 16), .ref (gad G 18), .int (bi im), .ref (gad G 27), .ref (gad G 29), .int iz])) {n : Nat} {f : Nat → Int32} (h1 : c 1 = .inr (0, [.ref (gad G 2), .int (nI n)])) (h2 : c 2 = .inl (gI G, 132, .inl f)) (hn : n ≤ 12) {x h t lo hi : Int32} : Met l yX10_test (wv yX10_test cX10_test 8 (some .int)) ({ frames := 1, cells := 0, slots := 0, locals := 23 } : Room) (va_Pc [.ref (gad G 0), .int x, .int h, .int t, .int lo, .int hi] (fun U => Hw G c U U.heap)) (va_Qi (fun r (c9 : Nat → va_E) => (tOK n x h t lo hi = false ∧ r = -2 ∧ c9 = c) ∨ (∃ a, a < n ∧ x = nI a ∧ tOK n x h t lo hi = true ∧ r = f (a * 11) ∧ c9 = va_up c 2 (.inl (gI G, 132, .inl (u4 f (a * 11) h t lo hi))))) (fun c9 t => Hw G c9 t t.heap) (gA G)) 0 0 (gA G) := by
  refine en (by decide +kernel) (by first | exact Nat.le_of_ble_eq_true rfl | decide) ?_
  intro p e s m below meth cd ls hx hb hr hml hown hts hlocks hnm hw hl
  have hl : lv_has ls 8 [(0, .ref (gad G 0)), (1, .int x), (2, .int h), (3, .int t), (4, .int lo), (5, .int hi)] := hl
  have hX : Sw G s s.heap := hw.2.2.2.2.2
  have hS : va_S (gA G) s.heap s.heap [] := va_S.rf
  obtain ⟨H, hH⟩ : ∃ wz9, wz9 = s.heap := ⟨_, rfl⟩
  obtain ⟨locs, hlocs⟩ : ∃ wz9 : List Loc, wz9 = [] := ⟨_, rfl⟩
  have hw : Hw G c s H := by rw [hH]; exact hw
  have hS : va_S (gA G) s.heap H locs := by rw [hH, hlocs]; exact hS
  suffices hgo : W p l e ({ frames := 1, cells := 0, slots := 0, locals := 23 } : Room) s m (([.ref (gad G 0), .int x, .int h, .int t, .int lo, .int hi] : List Value).toArray) below meth cd H locs 0 0 (MQ below (va_Qi (fun r (c9 : Nat → va_E) => (tOK n x h t lo hi = false ∧ r = -2 ∧ c9 = c) ∨ (∃ a, a < n ∧ x = nI a ∧ tOK n x h t lo hi = true ∧ r = f (a * 11) ∧ c9 = va_up c 2 (.inl (gI G, 132, .inl (u4 f (a * 11) h t lo hi))))) (fun c9 t => Hw G c9 t t.heap) (gA G)) ([.ref (gad G 0), .int x, .int h, .int t, .int lo, .int hi] : List Value).toArray s 0 0 (gA G)) (F0 m 0 ls []) by rw [hH, hlocs] at hgo; exact hgo
  refine lv_aload_n hx hb dX10_test_0 rfl (lv_at hl 0 rfl) ?_
  refine w_get (C := RX10) (T := TX10) (N := 12) 0 hx hb hts inX10 hown hw (by decide) o1 rfl (by decide) (hts _ tw_152) rfl dX10_test_1 ?_
  refine lv_iload_n hx hb dX10_test_4 rfl (lv_at hl 1 rfl) ?_
  refine cSe (rV (As := [_]) ⟨hx, hb, hml, hown, hts⟩ hw (k_X1_has l (by decide) (by decide) h1 h2 hn) (cv_X1_has hts tw_205 rfl rfl ⟨Nat.le_of_ble_eq_true rfl, Nat.le_of_ble_eq_true rfl⟩) (by decide) h1 rfl rfl hl.1 rfl (by first | exact Nat.le_of_ble_eq_true rfl | decide) dX10_test_5 ⟨Nat.zero_le _, Nat.zero_le _⟩) ?_
  refine zb_eq (tgt := 20) hx hb dX10_test_8 (by decide) (fun c8 => ?_) (fun c8 => ?_)
  · refine lv_bipush (v := (-2)) hx hb dX10_test_20 (by decide) ?_
    exact re_Q hx hb hr hlocks (rfl) hw hS dX10_test_22 (Or.inl ⟨by simp [tOK, ndT, c8], rfl, rfl⟩)
  · refine lv_iload_n hx hb dX10_test_11 rfl (lv_at hl 2 rfl) ?_
    refine lv_iconst (v := 0) hx hb dX10_test_12 (by decide) ?_
    refine lv_iconst (v := 5) hx hb dX10_test_13 (by decide) ?_
    refine cSe (rST (As := [_, _, _]) ⟨hx, hb, hml, hown, hts⟩ (k_X10_within l ) (cv_X10_within hts tw_209 rfl rfl ⟨Nat.le_of_ble_eq_true rfl, Nat.le_of_ble_eq_true rfl⟩) rfl hl.1 rfl (by first | exact Nat.le_of_ble_eq_true rfl | decide) dX10_test_14 ⟨Nat.zero_le _, Nat.zero_le _⟩) ?_
    refine zb_ne (tgt := 23) hx hb dX10_test_17 (by decide) (fun c17 => ?_) (fun c17 => ?_)
    · refine lv_iload_n hx hb dX10_test_23 rfl (lv_at hl 3 rfl) ?_
      refine lv_iconst (v := 0) hx hb dX10_test_24 (by decide) ?_
      refine lv_iload_n hx hb dX10_test_25 rfl (lv_at hl 2 rfl) ?_
      refine cSe (rST (As := [_]) ⟨hx, hb, hml, hown, hts⟩ (k_X1_testNeedsTrait l ) (cv_X1_testNeedsTrait hts tw_212 rfl rfl ⟨Nat.le_of_ble_eq_true rfl, Nat.le_of_ble_eq_true rfl⟩) rfl hl.1 rfl (by first | exact Nat.le_of_ble_eq_true rfl | decide) dX10_test_26 ⟨Nat.zero_le _, Nat.zero_le _⟩) ?_
      refine zb_eq (tgt := 36) hx hb dX10_test_29 (by decide) (fun c29 => ?_) (fun c29 => ?_)
      · refine lv_iconst (v := 0) hx hb dX10_test_36 (by decide) ?_
        refine cSe (rST (As := [_, _, _]) ⟨hx, hb, hml, hown, hts⟩ (k_X10_within l ) (cv_X10_within hts tw_209 rfl rfl ⟨Nat.le_of_ble_eq_true rfl, Nat.le_of_ble_eq_true rfl⟩) rfl hl.1 rfl (by first | exact Nat.le_of_ble_eq_true rfl | decide) dX10_test_37 ⟨Nat.zero_le _, Nat.zero_le _⟩) ?_
        refine zb_ne (tgt := 46) hx hb dX10_test_40 (by decide) (fun c40 => ?_) (fun c40 => ?_)
        · refine lv_iload_n hx hb dX10_test_46 rfl (lv_at hl 2 rfl) ?_
          refine lv_iconst (v := 3) hx hb dX10_test_47 (by decide) ?_
          refine lv_icmp_ne (tgt := 56) hx hb dX10_test_48 (by decide) (fun c48 => ?_) (fun c48 => ?_)
          · refine lv_bipush (v := 99) hx hb dX10_test_56 (by decide) ?_
            refine lv_istore (lv' := [(6, _), (0, _), (1, _), (2, _), (3, _), (4, _), (5, _)]) hx hb dX10_test_58 hl (by decide) rfl (fun ls hl => ?_)
            refine lv_iload hx hb dX10_test_60 (lv_at hl 5 rfl) ?_
            refine lv_iconst (v := 0) hx hb dX10_test_62 (by decide) ?_
            refine lv_iload hx hb dX10_test_63 (lv_at hl 0 rfl) ?_
            refine cSe (rST (As := [_, _, _]) ⟨hx, hb, hml, hown, hts⟩ (k_X10_within l ) (cv_X10_within hts tw_209 rfl rfl ⟨Nat.le_of_ble_eq_true rfl, Nat.le_of_ble_eq_true rfl⟩) rfl hl.1 rfl (by first | exact Nat.le_of_ble_eq_true rfl | decide) dX10_test_65 ⟨Nat.zero_le _, Nat.zero_le _⟩) ?_
            refine zb_eq (tgt := 82) hx hb dX10_test_68 (by decide) (fun c68 => ?_) (fun c68 => ?_)
            · refine lv_bipush (v := (-2)) hx hb dX10_test_82 (by decide) ?_
              exact re_Q hx hb hr hlocks (rfl) hw hS dX10_test_84 (Or.inl ⟨by simp [tOK, ndT, c8, c17, c29, c40, c48, c68], rfl, rfl⟩)
            · refine lv_iload hx hb dX10_test_71 (lv_at hl 6 rfl) ?_
              refine lv_iconst (v := 0) hx hb dX10_test_73 (by decide) ?_
              refine lv_iload hx hb dX10_test_74 (lv_at hl 0 rfl) ?_
              refine cSe (rST (As := [_, _, _]) ⟨hx, hb, hml, hown, hts⟩ (k_X10_within l ) (cv_X10_within hts tw_209 rfl rfl ⟨Nat.le_of_ble_eq_true rfl, Nat.le_of_ble_eq_true rfl⟩) rfl hl.1 rfl (by first | exact Nat.le_of_ble_eq_true rfl | decide) dX10_test_76 ⟨Nat.zero_le _, Nat.zero_le _⟩) ?_
              refine zb_ne (tgt := 85) hx hb dX10_test_79 (by decide) (fun c79 => ?_) (fun c79 => ?_)
              · obtain ⟨a, ha, rfl⟩ := hasN_t hn c8
                refine lv_aload_n hx hb dX10_test_85 rfl (lv_at hl 1 rfl) ?_
                refine w_get (C := RX10) (T := TX10) (N := 12) 0 hx hb hts inX10 hown hw (by decide) o1 rfl (by decide) (hts _ tw_152) rfl dX10_test_86 ?_
                refine lv_iload_n hx hb dX10_test_89 rfl (lv_at hl 2 rfl) ?_
                refine lv_iconst (v := 0) hx hb dX10_test_90 (by decide) ?_
                refine cSe (rV (As := [_, _]) ⟨hx, hb, hml, hown, hts⟩ hw (k_X1_at l (by decide) (by decide) h1 h2 hn (ix a 0) (by omega)) (cv_X1_at hts tw_215 rfl rfl ⟨Nat.le_of_ble_eq_true rfl, Nat.le_of_ble_eq_true rfl⟩) (by decide) h1 rfl rfl hl.1 rfl (by first | exact Nat.le_of_ble_eq_true rfl | decide) dX10_test_91 ⟨Nat.zero_le _, Nat.zero_le _⟩) ?_
                refine lv_istore (lv' := [(7, _), (6, _), (0, _), (1, _), (2, _), (3, _), (4, _), (5, _)]) hx hb dX10_test_94 hl (by decide) rfl (fun ls hl => ?_)
                refine lv_aload_n hx hb dX10_test_96 rfl (lv_at hl 2 rfl) ?_
                refine w_get (C := RX10) (T := TX10) (N := 12) 0 hx hb hts inX10 hown hw (by decide) o1 rfl (by decide) (hts _ tw_152) rfl dX10_test_97 ?_
                refine lv_iload_n hx hb dX10_test_100 rfl (lv_at hl 3 rfl) ?_
                refine lv_iconst (v := 0) hx hb dX10_test_101 (by decide) ?_
                refine lv_iload_n hx hb dX10_test_102 rfl (lv_at hl 4 rfl) ?_
                refine cQv (rV (As := [_, _, _]) ⟨hx, hb, hml, hown, hts⟩ hw (k_X1_put l (by decide) (by decide) h1 h2 hn (ix a 0) (by omega)) (cv_X1_put hts tw_219 rfl rfl ⟨Nat.le_of_ble_eq_true rfl, Nat.le_of_ble_eq_true rfl⟩) (by decide) h1 rfl rfl hl.1 rfl (by first | exact Nat.le_of_ble_eq_true rfl | decide) dX10_test_103 ⟨Nat.zero_le _, Nat.zero_le _⟩) hw hS (fun w1 H locs hp103 hw hS => ?_)
                have o1_1 : w1 0 = .inr (8, [.ref (gad G 1), .ref (gad G 3), .ref (gad G 5), .ref (gad G 8), .ref (gad G 9), .ref (gad G 11), .ref (gad G 16), .ref (gad G 18), .int (bi im), .ref (gad G 27), .ref (gad G 29), .int iz]) := by rw [hp103]; exact vu_e (by decide) o1
                have h1_1 : w1 1 = .inr (0, [.ref (gad G 2), .int (nI n)]) := by rw [hp103]; exact vu_e (by decide) h1
                have h2_1 : w1 2 = .inl (gI G, 132, .inl (upd f (a * 11 + 0) (h))) := by rw [hp103]; exact vu_s
                refine lv_aload_n hx hb dX10_test_106 rfl (lv_at hl 2 rfl) ?_
                refine w_get (C := RX10) (T := TX10) (N := 12) 0 hx hb hts inX10 hown hw (by decide) o1_1 rfl (by decide) (hts _ tw_152) rfl dX10_test_107 ?_
                refine lv_iload_n hx hb dX10_test_110 rfl (lv_at hl 3 rfl) ?_
                refine lv_iconst (v := 1) hx hb dX10_test_111 (by decide) ?_
                refine lv_iload_n hx hb dX10_test_112 rfl (lv_at hl 5 rfl) ?_
                refine cQv (rV (As := [_, _, _]) ⟨hx, hb, hml, hown, hts⟩ hw (k_X1_put l (by decide) (by decide) h1_1 h2_1 hn (ix a 1) (by omega)) (cv_X1_put hts tw_219 rfl rfl ⟨Nat.le_of_ble_eq_true rfl, Nat.le_of_ble_eq_true rfl⟩) (by decide) h1_1 rfl rfl hl.1 rfl (by first | exact Nat.le_of_ble_eq_true rfl | decide) dX10_test_113 ⟨Nat.zero_le _, Nat.zero_le _⟩) hw hS (fun w2 H locs hp113 hw hS => ?_)
                have o1_2 : w2 0 = .inr (8, [.ref (gad G 1), .ref (gad G 3), .ref (gad G 5), .ref (gad G 8), .ref (gad G 9), .ref (gad G 11), .ref (gad G 16), .ref (gad G 18), .int (bi im), .ref (gad G 27), .ref (gad G 29), .int iz]) := by rw [hp113]; exact vu_e (by decide) o1_1
                have h1_2 : w2 1 = .inr (0, [.ref (gad G 2), .int (nI n)]) := by rw [hp113]; exact vu_e (by decide) h1_1
                have h2_2 : w2 2 = .inl (gI G, 132, .inl (upd (upd f (a * 11 + 0) (h)) (a * 11 + 1) (t))) := by rw [hp113]; exact vu_s
                refine lv_aload_n hx hb dX10_test_116 rfl (lv_at hl 2 rfl) ?_
                refine w_get (C := RX10) (T := TX10) (N := 12) 0 hx hb hts inX10 hown hw (by decide) o1_2 rfl (by decide) (hts _ tw_152) rfl dX10_test_117 ?_
                refine lv_iload_n hx hb dX10_test_120 rfl (lv_at hl 3 rfl) ?_
                refine lv_iconst (v := 2) hx hb dX10_test_121 (by decide) ?_
                refine lv_iload hx hb dX10_test_122 (lv_at hl 6 rfl) ?_
                refine cQv (rV (As := [_, _, _]) ⟨hx, hb, hml, hown, hts⟩ hw (k_X1_put l (by decide) (by decide) h1_2 h2_2 hn (ix a 2) (by omega)) (cv_X1_put hts tw_219 rfl rfl ⟨Nat.le_of_ble_eq_true rfl, Nat.le_of_ble_eq_true rfl⟩) (by decide) h1_2 rfl rfl hl.1 rfl (by first | exact Nat.le_of_ble_eq_true rfl | decide) dX10_test_124 ⟨Nat.zero_le _, Nat.zero_le _⟩) hw hS (fun w3 H locs hp124 hw hS => ?_)
                have o1_3 : w3 0 = .inr (8, [.ref (gad G 1), .ref (gad G 3), .ref (gad G 5), .ref (gad G 8), .ref (gad G 9), .ref (gad G 11), .ref (gad G 16), .ref (gad G 18), .int (bi im), .ref (gad G 27), .ref (gad G 29), .int iz]) := by rw [hp124]; exact vu_e (by decide) o1_2
                have h1_3 : w3 1 = .inr (0, [.ref (gad G 2), .int (nI n)]) := by rw [hp124]; exact vu_e (by decide) h1_2
                have h2_3 : w3 2 = .inl (gI G, 132, .inl (upd (upd (upd f (a * 11 + 0) (h)) (a * 11 + 1) (t)) (a * 11 + 2) (lo))) := by rw [hp124]; exact vu_s
                refine lv_aload_n hx hb dX10_test_127 rfl (lv_at hl 2 rfl) ?_
                refine w_get (C := RX10) (T := TX10) (N := 12) 0 hx hb hts inX10 hown hw (by decide) o1_3 rfl (by decide) (hts _ tw_152) rfl dX10_test_128 ?_
                refine lv_iload_n hx hb dX10_test_131 rfl (lv_at hl 3 rfl) ?_
                refine lv_iconst (v := 3) hx hb dX10_test_132 (by decide) ?_
                refine lv_iload hx hb dX10_test_133 (lv_at hl 7 rfl) ?_
                refine cQv (rV (As := [_, _, _]) ⟨hx, hb, hml, hown, hts⟩ hw (k_X1_put l (by decide) (by decide) h1_3 h2_3 hn (ix a 3) (by omega)) (cv_X1_put hts tw_219 rfl rfl ⟨Nat.le_of_ble_eq_true rfl, Nat.le_of_ble_eq_true rfl⟩) (by decide) h1_3 rfl rfl hl.1 rfl (by first | exact Nat.le_of_ble_eq_true rfl | decide) dX10_test_135 ⟨Nat.zero_le _, Nat.zero_le _⟩) hw hS (fun w4 H locs hp135 hw hS => ?_)
                have o1_4 : w4 0 = .inr (8, [.ref (gad G 1), .ref (gad G 3), .ref (gad G 5), .ref (gad G 8), .ref (gad G 9), .ref (gad G 11), .ref (gad G 16), .ref (gad G 18), .int (bi im), .ref (gad G 27), .ref (gad G 29), .int iz]) := by rw [hp135]; exact vu_e (by decide) o1_3
                have h1_4 : w4 1 = .inr (0, [.ref (gad G 2), .int (nI n)]) := by rw [hp135]; exact vu_e (by decide) h1_3
                have h2_4 : w4 2 = .inl (gI G, 132, .inl (upd (upd (upd (upd f (a * 11 + 0) (h)) (a * 11 + 1) (t)) (a * 11 + 2) (lo)) (a * 11 + 3) (hi))) := by rw [hp135]; exact vu_s
                refine lv_iload hx hb dX10_test_138 (lv_at hl 0 rfl) ?_
                exact re_Q hx hb hr hlocks (rfl) hw hS dX10_test_140 (Or.inr ⟨a, ha, rfl, by simp [tOK, ndT, c8, c17, c29, c40, c48, c68, c79], rfl, by rw [hp135, hp124, hp113, hp103, up_up, up_up, up_up]; rfl⟩)
              · refine lv_bipush (v := (-2)) hx hb dX10_test_82 (by decide) ?_
                exact re_Q hx hb hr hlocks (rfl) hw hS dX10_test_84 (Or.inl ⟨by simp [tOK, ndT, c8, c17, c29, c40, c48, c68, c79], rfl, rfl⟩)
          · refine lv_bipush (v := 31) hx hb dX10_test_51 (by decide) ?_
            refine lv_goto (tgt := 58) hx hb dX10_test_53 (by decide) ?_
            refine lv_istore (lv' := [(6, _), (0, _), (1, _), (2, _), (3, _), (4, _), (5, _)]) hx hb dX10_test_58 hl (by decide) rfl (fun ls hl => ?_)
            refine lv_iload hx hb dX10_test_60 (lv_at hl 5 rfl) ?_
            refine lv_iconst (v := 0) hx hb dX10_test_62 (by decide) ?_
            refine lv_iload hx hb dX10_test_63 (lv_at hl 0 rfl) ?_
            refine cSe (rST (As := [_, _, _]) ⟨hx, hb, hml, hown, hts⟩ (k_X10_within l ) (cv_X10_within hts tw_209 rfl rfl ⟨Nat.le_of_ble_eq_true rfl, Nat.le_of_ble_eq_true rfl⟩) rfl hl.1 rfl (by first | exact Nat.le_of_ble_eq_true rfl | decide) dX10_test_65 ⟨Nat.zero_le _, Nat.zero_le _⟩) ?_
            refine zb_eq (tgt := 82) hx hb dX10_test_68 (by decide) (fun c68 => ?_) (fun c68 => ?_)
            · refine lv_bipush (v := (-2)) hx hb dX10_test_82 (by decide) ?_
              exact re_Q hx hb hr hlocks (rfl) hw hS dX10_test_84 (Or.inl ⟨by simp [tOK, ndT, c8, c17, c29, c40, if_pos c48, c68], rfl, rfl⟩)
            · refine lv_iload hx hb dX10_test_71 (lv_at hl 6 rfl) ?_
              refine lv_iconst (v := 0) hx hb dX10_test_73 (by decide) ?_
              refine lv_iload hx hb dX10_test_74 (lv_at hl 0 rfl) ?_
              refine cSe (rST (As := [_, _, _]) ⟨hx, hb, hml, hown, hts⟩ (k_X10_within l ) (cv_X10_within hts tw_209 rfl rfl ⟨Nat.le_of_ble_eq_true rfl, Nat.le_of_ble_eq_true rfl⟩) rfl hl.1 rfl (by first | exact Nat.le_of_ble_eq_true rfl | decide) dX10_test_76 ⟨Nat.zero_le _, Nat.zero_le _⟩) ?_
              refine zb_ne (tgt := 85) hx hb dX10_test_79 (by decide) (fun c79 => ?_) (fun c79 => ?_)
              · obtain ⟨a, ha, rfl⟩ := hasN_t hn c8
                refine lv_aload_n hx hb dX10_test_85 rfl (lv_at hl 1 rfl) ?_
                refine w_get (C := RX10) (T := TX10) (N := 12) 0 hx hb hts inX10 hown hw (by decide) o1 rfl (by decide) (hts _ tw_152) rfl dX10_test_86 ?_
                refine lv_iload_n hx hb dX10_test_89 rfl (lv_at hl 2 rfl) ?_
                refine lv_iconst (v := 0) hx hb dX10_test_90 (by decide) ?_
                refine cSe (rV (As := [_, _]) ⟨hx, hb, hml, hown, hts⟩ hw (k_X1_at l (by decide) (by decide) h1 h2 hn (ix a 0) (by omega)) (cv_X1_at hts tw_215 rfl rfl ⟨Nat.le_of_ble_eq_true rfl, Nat.le_of_ble_eq_true rfl⟩) (by decide) h1 rfl rfl hl.1 rfl (by first | exact Nat.le_of_ble_eq_true rfl | decide) dX10_test_91 ⟨Nat.zero_le _, Nat.zero_le _⟩) ?_
                refine lv_istore (lv' := [(7, _), (6, _), (0, _), (1, _), (2, _), (3, _), (4, _), (5, _)]) hx hb dX10_test_94 hl (by decide) rfl (fun ls hl => ?_)
                refine lv_aload_n hx hb dX10_test_96 rfl (lv_at hl 2 rfl) ?_
                refine w_get (C := RX10) (T := TX10) (N := 12) 0 hx hb hts inX10 hown hw (by decide) o1 rfl (by decide) (hts _ tw_152) rfl dX10_test_97 ?_
                refine lv_iload_n hx hb dX10_test_100 rfl (lv_at hl 3 rfl) ?_
                refine lv_iconst (v := 0) hx hb dX10_test_101 (by decide) ?_
                refine lv_iload_n hx hb dX10_test_102 rfl (lv_at hl 4 rfl) ?_
                refine cQv (rV (As := [_, _, _]) ⟨hx, hb, hml, hown, hts⟩ hw (k_X1_put l (by decide) (by decide) h1 h2 hn (ix a 0) (by omega)) (cv_X1_put hts tw_219 rfl rfl ⟨Nat.le_of_ble_eq_true rfl, Nat.le_of_ble_eq_true rfl⟩) (by decide) h1 rfl rfl hl.1 rfl (by first | exact Nat.le_of_ble_eq_true rfl | decide) dX10_test_103 ⟨Nat.zero_le _, Nat.zero_le _⟩) hw hS (fun w5 H locs hp103 hw hS => ?_)
                have o1_5 : w5 0 = .inr (8, [.ref (gad G 1), .ref (gad G 3), .ref (gad G 5), .ref (gad G 8), .ref (gad G 9), .ref (gad G 11), .ref (gad G 16), .ref (gad G 18), .int (bi im), .ref (gad G 27), .ref (gad G 29), .int iz]) := by rw [hp103]; exact vu_e (by decide) o1
                have h1_5 : w5 1 = .inr (0, [.ref (gad G 2), .int (nI n)]) := by rw [hp103]; exact vu_e (by decide) h1
                have h2_5 : w5 2 = .inl (gI G, 132, .inl (upd f (a * 11 + 0) (h))) := by rw [hp103]; exact vu_s
                refine lv_aload_n hx hb dX10_test_106 rfl (lv_at hl 2 rfl) ?_
                refine w_get (C := RX10) (T := TX10) (N := 12) 0 hx hb hts inX10 hown hw (by decide) o1_5 rfl (by decide) (hts _ tw_152) rfl dX10_test_107 ?_
                refine lv_iload_n hx hb dX10_test_110 rfl (lv_at hl 3 rfl) ?_
                refine lv_iconst (v := 1) hx hb dX10_test_111 (by decide) ?_
                refine lv_iload_n hx hb dX10_test_112 rfl (lv_at hl 5 rfl) ?_
                refine cQv (rV (As := [_, _, _]) ⟨hx, hb, hml, hown, hts⟩ hw (k_X1_put l (by decide) (by decide) h1_5 h2_5 hn (ix a 1) (by omega)) (cv_X1_put hts tw_219 rfl rfl ⟨Nat.le_of_ble_eq_true rfl, Nat.le_of_ble_eq_true rfl⟩) (by decide) h1_5 rfl rfl hl.1 rfl (by first | exact Nat.le_of_ble_eq_true rfl | decide) dX10_test_113 ⟨Nat.zero_le _, Nat.zero_le _⟩) hw hS (fun w6 H locs hp113 hw hS => ?_)
                have o1_6 : w6 0 = .inr (8, [.ref (gad G 1), .ref (gad G 3), .ref (gad G 5), .ref (gad G 8), .ref (gad G 9), .ref (gad G 11), .ref (gad G 16), .ref (gad G 18), .int (bi im), .ref (gad G 27), .ref (gad G 29), .int iz]) := by rw [hp113]; exact vu_e (by decide) o1_5
                have h1_6 : w6 1 = .inr (0, [.ref (gad G 2), .int (nI n)]) := by rw [hp113]; exact vu_e (by decide) h1_5
                have h2_6 : w6 2 = .inl (gI G, 132, .inl (upd (upd f (a * 11 + 0) (h)) (a * 11 + 1) (t))) := by rw [hp113]; exact vu_s
                refine lv_aload_n hx hb dX10_test_116 rfl (lv_at hl 2 rfl) ?_
                refine w_get (C := RX10) (T := TX10) (N := 12) 0 hx hb hts inX10 hown hw (by decide) o1_6 rfl (by decide) (hts _ tw_152) rfl dX10_test_117 ?_
                refine lv_iload_n hx hb dX10_test_120 rfl (lv_at hl 3 rfl) ?_
                refine lv_iconst (v := 2) hx hb dX10_test_121 (by decide) ?_
                refine lv_iload hx hb dX10_test_122 (lv_at hl 6 rfl) ?_
                refine cQv (rV (As := [_, _, _]) ⟨hx, hb, hml, hown, hts⟩ hw (k_X1_put l (by decide) (by decide) h1_6 h2_6 hn (ix a 2) (by omega)) (cv_X1_put hts tw_219 rfl rfl ⟨Nat.le_of_ble_eq_true rfl, Nat.le_of_ble_eq_true rfl⟩) (by decide) h1_6 rfl rfl hl.1 rfl (by first | exact Nat.le_of_ble_eq_true rfl | decide) dX10_test_124 ⟨Nat.zero_le _, Nat.zero_le _⟩) hw hS (fun w7 H locs hp124 hw hS => ?_)
                have o1_7 : w7 0 = .inr (8, [.ref (gad G 1), .ref (gad G 3), .ref (gad G 5), .ref (gad G 8), .ref (gad G 9), .ref (gad G 11), .ref (gad G 16), .ref (gad G 18), .int (bi im), .ref (gad G 27), .ref (gad G 29), .int iz]) := by rw [hp124]; exact vu_e (by decide) o1_6
                have h1_7 : w7 1 = .inr (0, [.ref (gad G 2), .int (nI n)]) := by rw [hp124]; exact vu_e (by decide) h1_6
                have h2_7 : w7 2 = .inl (gI G, 132, .inl (upd (upd (upd f (a * 11 + 0) (h)) (a * 11 + 1) (t)) (a * 11 + 2) (lo))) := by rw [hp124]; exact vu_s
                refine lv_aload_n hx hb dX10_test_127 rfl (lv_at hl 2 rfl) ?_
                refine w_get (C := RX10) (T := TX10) (N := 12) 0 hx hb hts inX10 hown hw (by decide) o1_7 rfl (by decide) (hts _ tw_152) rfl dX10_test_128 ?_
                refine lv_iload_n hx hb dX10_test_131 rfl (lv_at hl 3 rfl) ?_
                refine lv_iconst (v := 3) hx hb dX10_test_132 (by decide) ?_
                refine lv_iload hx hb dX10_test_133 (lv_at hl 7 rfl) ?_
                refine cQv (rV (As := [_, _, _]) ⟨hx, hb, hml, hown, hts⟩ hw (k_X1_put l (by decide) (by decide) h1_7 h2_7 hn (ix a 3) (by omega)) (cv_X1_put hts tw_219 rfl rfl ⟨Nat.le_of_ble_eq_true rfl, Nat.le_of_ble_eq_true rfl⟩) (by decide) h1_7 rfl rfl hl.1 rfl (by first | exact Nat.le_of_ble_eq_true rfl | decide) dX10_test_135 ⟨Nat.zero_le _, Nat.zero_le _⟩) hw hS (fun w8 H locs hp135 hw hS => ?_)
                have o1_8 : w8 0 = .inr (8, [.ref (gad G 1), .ref (gad G 3), .ref (gad G 5), .ref (gad G 8), .ref (gad G 9), .ref (gad G 11), .ref (gad G 16), .ref (gad G 18), .int (bi im), .ref (gad G 27), .ref (gad G 29), .int iz]) := by rw [hp135]; exact vu_e (by decide) o1_7
                have h1_8 : w8 1 = .inr (0, [.ref (gad G 2), .int (nI n)]) := by rw [hp135]; exact vu_e (by decide) h1_7
                have h2_8 : w8 2 = .inl (gI G, 132, .inl (upd (upd (upd (upd f (a * 11 + 0) (h)) (a * 11 + 1) (t)) (a * 11 + 2) (lo)) (a * 11 + 3) (hi))) := by rw [hp135]; exact vu_s
                refine lv_iload hx hb dX10_test_138 (lv_at hl 0 rfl) ?_
                exact re_Q hx hb hr hlocks (rfl) hw hS dX10_test_140 (Or.inr ⟨a, ha, rfl, by simp [tOK, ndT, c8, c17, c29, c40, if_pos c48, c68, c79], rfl, by rw [hp135, hp124, hp113, hp103, up_up, up_up, up_up]; rfl⟩)
              · refine lv_bipush (v := (-2)) hx hb dX10_test_82 (by decide) ?_
                exact re_Q hx hb hr hlocks (rfl) hw hS dX10_test_84 (Or.inl ⟨by simp [tOK, ndT, c8, c17, c29, c40, if_pos c48, c68, c79], rfl, rfl⟩)
        · refine lv_bipush (v := (-2)) hx hb dX10_test_43 (by decide) ?_
          exact re_Q hx hb hr hlocks (rfl) hw hS dX10_test_45 (Or.inl ⟨by simp [tOK, ndT, c8, c17, c29, c40], rfl, rfl⟩)
      · refine lv_iconst (v := 3) hx hb dX10_test_32 (by decide) ?_
        refine lv_goto (tgt := 37) hx hb dX10_test_33 (by decide) ?_
        refine cSe (rST (As := [_, _, _]) ⟨hx, hb, hml, hown, hts⟩ (k_X10_within l ) (cv_X10_within hts tw_209 rfl rfl ⟨Nat.le_of_ble_eq_true rfl, Nat.le_of_ble_eq_true rfl⟩) rfl hl.1 rfl (by first | exact Nat.le_of_ble_eq_true rfl | decide) dX10_test_37 ⟨Nat.zero_le _, Nat.zero_le _⟩) ?_
        refine zb_ne (tgt := 46) hx hb dX10_test_40 (by decide) (fun c40 => ?_) (fun c40 => ?_)
        · refine lv_iload_n hx hb dX10_test_46 rfl (lv_at hl 2 rfl) ?_
          refine lv_iconst (v := 3) hx hb dX10_test_47 (by decide) ?_
          refine lv_icmp_ne (tgt := 56) hx hb dX10_test_48 (by decide) (fun c48 => ?_) (fun c48 => ?_)
          · refine lv_bipush (v := 99) hx hb dX10_test_56 (by decide) ?_
            refine lv_istore (lv' := [(6, _), (0, _), (1, _), (2, _), (3, _), (4, _), (5, _)]) hx hb dX10_test_58 hl (by decide) rfl (fun ls hl => ?_)
            refine lv_iload hx hb dX10_test_60 (lv_at hl 5 rfl) ?_
            refine lv_iconst (v := 0) hx hb dX10_test_62 (by decide) ?_
            refine lv_iload hx hb dX10_test_63 (lv_at hl 0 rfl) ?_
            refine cSe (rST (As := [_, _, _]) ⟨hx, hb, hml, hown, hts⟩ (k_X10_within l ) (cv_X10_within hts tw_209 rfl rfl ⟨Nat.le_of_ble_eq_true rfl, Nat.le_of_ble_eq_true rfl⟩) rfl hl.1 rfl (by first | exact Nat.le_of_ble_eq_true rfl | decide) dX10_test_65 ⟨Nat.zero_le _, Nat.zero_le _⟩) ?_
            refine zb_eq (tgt := 82) hx hb dX10_test_68 (by decide) (fun c68 => ?_) (fun c68 => ?_)
            · refine lv_bipush (v := (-2)) hx hb dX10_test_82 (by decide) ?_
              exact re_Q hx hb hr hlocks (rfl) hw hS dX10_test_84 (Or.inl ⟨by simp [tOK, ndT, c8, c17, c29, c40, c48, c68], rfl, rfl⟩)
            · refine lv_iload hx hb dX10_test_71 (lv_at hl 6 rfl) ?_
              refine lv_iconst (v := 0) hx hb dX10_test_73 (by decide) ?_
              refine lv_iload hx hb dX10_test_74 (lv_at hl 0 rfl) ?_
              refine cSe (rST (As := [_, _, _]) ⟨hx, hb, hml, hown, hts⟩ (k_X10_within l ) (cv_X10_within hts tw_209 rfl rfl ⟨Nat.le_of_ble_eq_true rfl, Nat.le_of_ble_eq_true rfl⟩) rfl hl.1 rfl (by first | exact Nat.le_of_ble_eq_true rfl | decide) dX10_test_76 ⟨Nat.zero_le _, Nat.zero_le _⟩) ?_
              refine zb_ne (tgt := 85) hx hb dX10_test_79 (by decide) (fun c79 => ?_) (fun c79 => ?_)
              · obtain ⟨a, ha, rfl⟩ := hasN_t hn c8
                refine lv_aload_n hx hb dX10_test_85 rfl (lv_at hl 1 rfl) ?_
                refine w_get (C := RX10) (T := TX10) (N := 12) 0 hx hb hts inX10 hown hw (by decide) o1 rfl (by decide) (hts _ tw_152) rfl dX10_test_86 ?_
                refine lv_iload_n hx hb dX10_test_89 rfl (lv_at hl 2 rfl) ?_
                refine lv_iconst (v := 0) hx hb dX10_test_90 (by decide) ?_
                refine cSe (rV (As := [_, _]) ⟨hx, hb, hml, hown, hts⟩ hw (k_X1_at l (by decide) (by decide) h1 h2 hn (ix a 0) (by omega)) (cv_X1_at hts tw_215 rfl rfl ⟨Nat.le_of_ble_eq_true rfl, Nat.le_of_ble_eq_true rfl⟩) (by decide) h1 rfl rfl hl.1 rfl (by first | exact Nat.le_of_ble_eq_true rfl | decide) dX10_test_91 ⟨Nat.zero_le _, Nat.zero_le _⟩) ?_
                refine lv_istore (lv' := [(7, _), (6, _), (0, _), (1, _), (2, _), (3, _), (4, _), (5, _)]) hx hb dX10_test_94 hl (by decide) rfl (fun ls hl => ?_)
                refine lv_aload_n hx hb dX10_test_96 rfl (lv_at hl 2 rfl) ?_
                refine w_get (C := RX10) (T := TX10) (N := 12) 0 hx hb hts inX10 hown hw (by decide) o1 rfl (by decide) (hts _ tw_152) rfl dX10_test_97 ?_
                refine lv_iload_n hx hb dX10_test_100 rfl (lv_at hl 3 rfl) ?_
                refine lv_iconst (v := 0) hx hb dX10_test_101 (by decide) ?_
                refine lv_iload_n hx hb dX10_test_102 rfl (lv_at hl 4 rfl) ?_
                refine cQv (rV (As := [_, _, _]) ⟨hx, hb, hml, hown, hts⟩ hw (k_X1_put l (by decide) (by decide) h1 h2 hn (ix a 0) (by omega)) (cv_X1_put hts tw_219 rfl rfl ⟨Nat.le_of_ble_eq_true rfl, Nat.le_of_ble_eq_true rfl⟩) (by decide) h1 rfl rfl hl.1 rfl (by first | exact Nat.le_of_ble_eq_true rfl | decide) dX10_test_103 ⟨Nat.zero_le _, Nat.zero_le _⟩) hw hS (fun w9 H locs hp103 hw hS => ?_)
                have o1_9 : w9 0 = .inr (8, [.ref (gad G 1), .ref (gad G 3), .ref (gad G 5), .ref (gad G 8), .ref (gad G 9), .ref (gad G 11), .ref (gad G 16), .ref (gad G 18), .int (bi im), .ref (gad G 27), .ref (gad G 29), .int iz]) := by rw [hp103]; exact vu_e (by decide) o1
                have h1_9 : w9 1 = .inr (0, [.ref (gad G 2), .int (nI n)]) := by rw [hp103]; exact vu_e (by decide) h1
                have h2_9 : w9 2 = .inl (gI G, 132, .inl (upd f (a * 11 + 0) (h))) := by rw [hp103]; exact vu_s
                refine lv_aload_n hx hb dX10_test_106 rfl (lv_at hl 2 rfl) ?_
                refine w_get (C := RX10) (T := TX10) (N := 12) 0 hx hb hts inX10 hown hw (by decide) o1_9 rfl (by decide) (hts _ tw_152) rfl dX10_test_107 ?_
                refine lv_iload_n hx hb dX10_test_110 rfl (lv_at hl 3 rfl) ?_
                refine lv_iconst (v := 1) hx hb dX10_test_111 (by decide) ?_
                refine lv_iload_n hx hb dX10_test_112 rfl (lv_at hl 5 rfl) ?_
                refine cQv (rV (As := [_, _, _]) ⟨hx, hb, hml, hown, hts⟩ hw (k_X1_put l (by decide) (by decide) h1_9 h2_9 hn (ix a 1) (by omega)) (cv_X1_put hts tw_219 rfl rfl ⟨Nat.le_of_ble_eq_true rfl, Nat.le_of_ble_eq_true rfl⟩) (by decide) h1_9 rfl rfl hl.1 rfl (by first | exact Nat.le_of_ble_eq_true rfl | decide) dX10_test_113 ⟨Nat.zero_le _, Nat.zero_le _⟩) hw hS (fun w10 H locs hp113 hw hS => ?_)
                have o1_10 : w10 0 = .inr (8, [.ref (gad G 1), .ref (gad G 3), .ref (gad G 5), .ref (gad G 8), .ref (gad G 9), .ref (gad G 11), .ref (gad G 16), .ref (gad G 18), .int (bi im), .ref (gad G 27), .ref (gad G 29), .int iz]) := by rw [hp113]; exact vu_e (by decide) o1_9
                have h1_10 : w10 1 = .inr (0, [.ref (gad G 2), .int (nI n)]) := by rw [hp113]; exact vu_e (by decide) h1_9
                have h2_10 : w10 2 = .inl (gI G, 132, .inl (upd (upd f (a * 11 + 0) (h)) (a * 11 + 1) (t))) := by rw [hp113]; exact vu_s
                refine lv_aload_n hx hb dX10_test_116 rfl (lv_at hl 2 rfl) ?_
                refine w_get (C := RX10) (T := TX10) (N := 12) 0 hx hb hts inX10 hown hw (by decide) o1_10 rfl (by decide) (hts _ tw_152) rfl dX10_test_117 ?_
                refine lv_iload_n hx hb dX10_test_120 rfl (lv_at hl 3 rfl) ?_
                refine lv_iconst (v := 2) hx hb dX10_test_121 (by decide) ?_
                refine lv_iload hx hb dX10_test_122 (lv_at hl 6 rfl) ?_
                refine cQv (rV (As := [_, _, _]) ⟨hx, hb, hml, hown, hts⟩ hw (k_X1_put l (by decide) (by decide) h1_10 h2_10 hn (ix a 2) (by omega)) (cv_X1_put hts tw_219 rfl rfl ⟨Nat.le_of_ble_eq_true rfl, Nat.le_of_ble_eq_true rfl⟩) (by decide) h1_10 rfl rfl hl.1 rfl (by first | exact Nat.le_of_ble_eq_true rfl | decide) dX10_test_124 ⟨Nat.zero_le _, Nat.zero_le _⟩) hw hS (fun w11 H locs hp124 hw hS => ?_)
                have o1_11 : w11 0 = .inr (8, [.ref (gad G 1), .ref (gad G 3), .ref (gad G 5), .ref (gad G 8), .ref (gad G 9), .ref (gad G 11), .ref (gad G 16), .ref (gad G 18), .int (bi im), .ref (gad G 27), .ref (gad G 29), .int iz]) := by rw [hp124]; exact vu_e (by decide) o1_10
                have h1_11 : w11 1 = .inr (0, [.ref (gad G 2), .int (nI n)]) := by rw [hp124]; exact vu_e (by decide) h1_10
                have h2_11 : w11 2 = .inl (gI G, 132, .inl (upd (upd (upd f (a * 11 + 0) (h)) (a * 11 + 1) (t)) (a * 11 + 2) (lo))) := by rw [hp124]; exact vu_s
                refine lv_aload_n hx hb dX10_test_127 rfl (lv_at hl 2 rfl) ?_
                refine w_get (C := RX10) (T := TX10) (N := 12) 0 hx hb hts inX10 hown hw (by decide) o1_11 rfl (by decide) (hts _ tw_152) rfl dX10_test_128 ?_
                refine lv_iload_n hx hb dX10_test_131 rfl (lv_at hl 3 rfl) ?_
                refine lv_iconst (v := 3) hx hb dX10_test_132 (by decide) ?_
                refine lv_iload hx hb dX10_test_133 (lv_at hl 7 rfl) ?_
                refine cQv (rV (As := [_, _, _]) ⟨hx, hb, hml, hown, hts⟩ hw (k_X1_put l (by decide) (by decide) h1_11 h2_11 hn (ix a 3) (by omega)) (cv_X1_put hts tw_219 rfl rfl ⟨Nat.le_of_ble_eq_true rfl, Nat.le_of_ble_eq_true rfl⟩) (by decide) h1_11 rfl rfl hl.1 rfl (by first | exact Nat.le_of_ble_eq_true rfl | decide) dX10_test_135 ⟨Nat.zero_le _, Nat.zero_le _⟩) hw hS (fun w12 H locs hp135 hw hS => ?_)
                have o1_12 : w12 0 = .inr (8, [.ref (gad G 1), .ref (gad G 3), .ref (gad G 5), .ref (gad G 8), .ref (gad G 9), .ref (gad G 11), .ref (gad G 16), .ref (gad G 18), .int (bi im), .ref (gad G 27), .ref (gad G 29), .int iz]) := by rw [hp135]; exact vu_e (by decide) o1_11
                have h1_12 : w12 1 = .inr (0, [.ref (gad G 2), .int (nI n)]) := by rw [hp135]; exact vu_e (by decide) h1_11
                have h2_12 : w12 2 = .inl (gI G, 132, .inl (upd (upd (upd (upd f (a * 11 + 0) (h)) (a * 11 + 1) (t)) (a * 11 + 2) (lo)) (a * 11 + 3) (hi))) := by rw [hp135]; exact vu_s
                refine lv_iload hx hb dX10_test_138 (lv_at hl 0 rfl) ?_
                exact re_Q hx hb hr hlocks (rfl) hw hS dX10_test_140 (Or.inr ⟨a, ha, rfl, by simp [tOK, ndT, c8, c17, c29, c40, c48, c68, c79], rfl, by rw [hp135, hp124, hp113, hp103, up_up, up_up, up_up]; rfl⟩)
              · refine lv_bipush (v := (-2)) hx hb dX10_test_82 (by decide) ?_
                exact re_Q hx hb hr hlocks (rfl) hw hS dX10_test_84 (Or.inl ⟨by simp [tOK, ndT, c8, c17, c29, c40, c48, c68, c79], rfl, rfl⟩)
          · refine lv_bipush (v := 31) hx hb dX10_test_51 (by decide) ?_
            refine lv_goto (tgt := 58) hx hb dX10_test_53 (by decide) ?_
            refine lv_istore (lv' := [(6, _), (0, _), (1, _), (2, _), (3, _), (4, _), (5, _)]) hx hb dX10_test_58 hl (by decide) rfl (fun ls hl => ?_)
            refine lv_iload hx hb dX10_test_60 (lv_at hl 5 rfl) ?_
            refine lv_iconst (v := 0) hx hb dX10_test_62 (by decide) ?_
            refine lv_iload hx hb dX10_test_63 (lv_at hl 0 rfl) ?_
            refine cSe (rST (As := [_, _, _]) ⟨hx, hb, hml, hown, hts⟩ (k_X10_within l ) (cv_X10_within hts tw_209 rfl rfl ⟨Nat.le_of_ble_eq_true rfl, Nat.le_of_ble_eq_true rfl⟩) rfl hl.1 rfl (by first | exact Nat.le_of_ble_eq_true rfl | decide) dX10_test_65 ⟨Nat.zero_le _, Nat.zero_le _⟩) ?_
            refine zb_eq (tgt := 82) hx hb dX10_test_68 (by decide) (fun c68 => ?_) (fun c68 => ?_)
            · refine lv_bipush (v := (-2)) hx hb dX10_test_82 (by decide) ?_
              exact re_Q hx hb hr hlocks (rfl) hw hS dX10_test_84 (Or.inl ⟨by simp [tOK, ndT, c8, c17, c29, c40, if_pos c48, c68], rfl, rfl⟩)
            · refine lv_iload hx hb dX10_test_71 (lv_at hl 6 rfl) ?_
              refine lv_iconst (v := 0) hx hb dX10_test_73 (by decide) ?_
              refine lv_iload hx hb dX10_test_74 (lv_at hl 0 rfl) ?_
              refine cSe (rST (As := [_, _, _]) ⟨hx, hb, hml, hown, hts⟩ (k_X10_within l ) (cv_X10_within hts tw_209 rfl rfl ⟨Nat.le_of_ble_eq_true rfl, Nat.le_of_ble_eq_true rfl⟩) rfl hl.1 rfl (by first | exact Nat.le_of_ble_eq_true rfl | decide) dX10_test_76 ⟨Nat.zero_le _, Nat.zero_le _⟩) ?_
              refine zb_ne (tgt := 85) hx hb dX10_test_79 (by decide) (fun c79 => ?_) (fun c79 => ?_)
              · obtain ⟨a, ha, rfl⟩ := hasN_t hn c8
                refine lv_aload_n hx hb dX10_test_85 rfl (lv_at hl 1 rfl) ?_
                refine w_get (C := RX10) (T := TX10) (N := 12) 0 hx hb hts inX10 hown hw (by decide) o1 rfl (by decide) (hts _ tw_152) rfl dX10_test_86 ?_
                refine lv_iload_n hx hb dX10_test_89 rfl (lv_at hl 2 rfl) ?_
                refine lv_iconst (v := 0) hx hb dX10_test_90 (by decide) ?_
                refine cSe (rV (As := [_, _]) ⟨hx, hb, hml, hown, hts⟩ hw (k_X1_at l (by decide) (by decide) h1 h2 hn (ix a 0) (by omega)) (cv_X1_at hts tw_215 rfl rfl ⟨Nat.le_of_ble_eq_true rfl, Nat.le_of_ble_eq_true rfl⟩) (by decide) h1 rfl rfl hl.1 rfl (by first | exact Nat.le_of_ble_eq_true rfl | decide) dX10_test_91 ⟨Nat.zero_le _, Nat.zero_le _⟩) ?_
                refine lv_istore (lv' := [(7, _), (6, _), (0, _), (1, _), (2, _), (3, _), (4, _), (5, _)]) hx hb dX10_test_94 hl (by decide) rfl (fun ls hl => ?_)
                refine lv_aload_n hx hb dX10_test_96 rfl (lv_at hl 2 rfl) ?_
                refine w_get (C := RX10) (T := TX10) (N := 12) 0 hx hb hts inX10 hown hw (by decide) o1 rfl (by decide) (hts _ tw_152) rfl dX10_test_97 ?_
                refine lv_iload_n hx hb dX10_test_100 rfl (lv_at hl 3 rfl) ?_
                refine lv_iconst (v := 0) hx hb dX10_test_101 (by decide) ?_
                refine lv_iload_n hx hb dX10_test_102 rfl (lv_at hl 4 rfl) ?_
                refine cQv (rV (As := [_, _, _]) ⟨hx, hb, hml, hown, hts⟩ hw (k_X1_put l (by decide) (by decide) h1 h2 hn (ix a 0) (by omega)) (cv_X1_put hts tw_219 rfl rfl ⟨Nat.le_of_ble_eq_true rfl, Nat.le_of_ble_eq_true rfl⟩) (by decide) h1 rfl rfl hl.1 rfl (by first | exact Nat.le_of_ble_eq_true rfl | decide) dX10_test_103 ⟨Nat.zero_le _, Nat.zero_le _⟩) hw hS (fun w13 H locs hp103 hw hS => ?_)
                have o1_13 : w13 0 = .inr (8, [.ref (gad G 1), .ref (gad G 3), .ref (gad G 5), .ref (gad G 8), .ref (gad G 9), .ref (gad G 11), .ref (gad G 16), .ref (gad G 18), .int (bi im), .ref (gad G 27), .ref (gad G 29), .int iz]) := by rw [hp103]; exact vu_e (by decide) o1
                have h1_13 : w13 1 = .inr (0, [.ref (gad G 2), .int (nI n)]) := by rw [hp103]; exact vu_e (by decide) h1
                have h2_13 : w13 2 = .inl (gI G, 132, .inl (upd f (a * 11 + 0) (h))) := by rw [hp103]; exact vu_s
                refine lv_aload_n hx hb dX10_test_106 rfl (lv_at hl 2 rfl) ?_
                refine w_get (C := RX10) (T := TX10) (N := 12) 0 hx hb hts inX10 hown hw (by decide) o1_13 rfl (by decide) (hts _ tw_152) rfl dX10_test_107 ?_
                refine lv_iload_n hx hb dX10_test_110 rfl (lv_at hl 3 rfl) ?_
                refine lv_iconst (v := 1) hx hb dX10_test_111 (by decide) ?_
                refine lv_iload_n hx hb dX10_test_112 rfl (lv_at hl 5 rfl) ?_
                refine cQv (rV (As := [_, _, _]) ⟨hx, hb, hml, hown, hts⟩ hw (k_X1_put l (by decide) (by decide) h1_13 h2_13 hn (ix a 1) (by omega)) (cv_X1_put hts tw_219 rfl rfl ⟨Nat.le_of_ble_eq_true rfl, Nat.le_of_ble_eq_true rfl⟩) (by decide) h1_13 rfl rfl hl.1 rfl (by first | exact Nat.le_of_ble_eq_true rfl | decide) dX10_test_113 ⟨Nat.zero_le _, Nat.zero_le _⟩) hw hS (fun w14 H locs hp113 hw hS => ?_)
                have o1_14 : w14 0 = .inr (8, [.ref (gad G 1), .ref (gad G 3), .ref (gad G 5), .ref (gad G 8), .ref (gad G 9), .ref (gad G 11), .ref (gad G 16), .ref (gad G 18), .int (bi im), .ref (gad G 27), .ref (gad G 29), .int iz]) := by rw [hp113]; exact vu_e (by decide) o1_13
                have h1_14 : w14 1 = .inr (0, [.ref (gad G 2), .int (nI n)]) := by rw [hp113]; exact vu_e (by decide) h1_13
                have h2_14 : w14 2 = .inl (gI G, 132, .inl (upd (upd f (a * 11 + 0) (h)) (a * 11 + 1) (t))) := by rw [hp113]; exact vu_s
                refine lv_aload_n hx hb dX10_test_116 rfl (lv_at hl 2 rfl) ?_
                refine w_get (C := RX10) (T := TX10) (N := 12) 0 hx hb hts inX10 hown hw (by decide) o1_14 rfl (by decide) (hts _ tw_152) rfl dX10_test_117 ?_
                refine lv_iload_n hx hb dX10_test_120 rfl (lv_at hl 3 rfl) ?_
                refine lv_iconst (v := 2) hx hb dX10_test_121 (by decide) ?_
                refine lv_iload hx hb dX10_test_122 (lv_at hl 6 rfl) ?_
                refine cQv (rV (As := [_, _, _]) ⟨hx, hb, hml, hown, hts⟩ hw (k_X1_put l (by decide) (by decide) h1_14 h2_14 hn (ix a 2) (by omega)) (cv_X1_put hts tw_219 rfl rfl ⟨Nat.le_of_ble_eq_true rfl, Nat.le_of_ble_eq_true rfl⟩) (by decide) h1_14 rfl rfl hl.1 rfl (by first | exact Nat.le_of_ble_eq_true rfl | decide) dX10_test_124 ⟨Nat.zero_le _, Nat.zero_le _⟩) hw hS (fun w15 H locs hp124 hw hS => ?_)
                have o1_15 : w15 0 = .inr (8, [.ref (gad G 1), .ref (gad G 3), .ref (gad G 5), .ref (gad G 8), .ref (gad G 9), .ref (gad G 11), .ref (gad G 16), .ref (gad G 18), .int (bi im), .ref (gad G 27), .ref (gad G 29), .int iz]) := by rw [hp124]; exact vu_e (by decide) o1_14
                have h1_15 : w15 1 = .inr (0, [.ref (gad G 2), .int (nI n)]) := by rw [hp124]; exact vu_e (by decide) h1_14
                have h2_15 : w15 2 = .inl (gI G, 132, .inl (upd (upd (upd f (a * 11 + 0) (h)) (a * 11 + 1) (t)) (a * 11 + 2) (lo))) := by rw [hp124]; exact vu_s
                refine lv_aload_n hx hb dX10_test_127 rfl (lv_at hl 2 rfl) ?_
                refine w_get (C := RX10) (T := TX10) (N := 12) 0 hx hb hts inX10 hown hw (by decide) o1_15 rfl (by decide) (hts _ tw_152) rfl dX10_test_128 ?_
                refine lv_iload_n hx hb dX10_test_131 rfl (lv_at hl 3 rfl) ?_
                refine lv_iconst (v := 3) hx hb dX10_test_132 (by decide) ?_
                refine lv_iload hx hb dX10_test_133 (lv_at hl 7 rfl) ?_
                refine cQv (rV (As := [_, _, _]) ⟨hx, hb, hml, hown, hts⟩ hw (k_X1_put l (by decide) (by decide) h1_15 h2_15 hn (ix a 3) (by omega)) (cv_X1_put hts tw_219 rfl rfl ⟨Nat.le_of_ble_eq_true rfl, Nat.le_of_ble_eq_true rfl⟩) (by decide) h1_15 rfl rfl hl.1 rfl (by first | exact Nat.le_of_ble_eq_true rfl | decide) dX10_test_135 ⟨Nat.zero_le _, Nat.zero_le _⟩) hw hS (fun w16 H locs hp135 hw hS => ?_)
                have o1_16 : w16 0 = .inr (8, [.ref (gad G 1), .ref (gad G 3), .ref (gad G 5), .ref (gad G 8), .ref (gad G 9), .ref (gad G 11), .ref (gad G 16), .ref (gad G 18), .int (bi im), .ref (gad G 27), .ref (gad G 29), .int iz]) := by rw [hp135]; exact vu_e (by decide) o1_15
                have h1_16 : w16 1 = .inr (0, [.ref (gad G 2), .int (nI n)]) := by rw [hp135]; exact vu_e (by decide) h1_15
                have h2_16 : w16 2 = .inl (gI G, 132, .inl (upd (upd (upd (upd f (a * 11 + 0) (h)) (a * 11 + 1) (t)) (a * 11 + 2) (lo)) (a * 11 + 3) (hi))) := by rw [hp135]; exact vu_s
                refine lv_iload hx hb dX10_test_138 (lv_at hl 0 rfl) ?_
                exact re_Q hx hb hr hlocks (rfl) hw hS dX10_test_140 (Or.inr ⟨a, ha, rfl, by simp [tOK, ndT, c8, c17, c29, c40, if_pos c48, c68, c79], rfl, by rw [hp135, hp124, hp113, hp103, up_up, up_up, up_up]; rfl⟩)
              · refine lv_bipush (v := (-2)) hx hb dX10_test_82 (by decide) ?_
                exact re_Q hx hb hr hlocks (rfl) hw hS dX10_test_84 (Or.inl ⟨by simp [tOK, ndT, c8, c17, c29, c40, if_pos c48, c68, c79], rfl, rfl⟩)
        · refine lv_bipush (v := (-2)) hx hb dX10_test_43 (by decide) ?_
          exact re_Q hx hb hr hlocks (rfl) hw hS dX10_test_45 (Or.inl ⟨by simp [tOK, ndT, c8, c17, c29, c40], rfl, rfl⟩)
    · refine lv_bipush (v := (-2)) hx hb dX10_test_20 (by decide) ?_
      exact re_Q hx hb hr hlocks (rfl) hw hS dX10_test_22 (Or.inl ⟨by simp [tOK, ndT, c8, c17], rfl, rfl⟩)
set_option maxHeartbeats 4000000 in
set_option maxRecDepth 100000 in
theorem k_X10_grant (l : Launch) {G : GT} {c : Nat → va_E} {im : Bool} {iz : Int32} (o1 : c 0 = .inr (8, [.ref (gad G 1), .ref (gad G 3), .ref (gad G 5), .ref (gad G 8), .ref (gad G 9), .ref (gad G 11), .ref (gad G 16), .ref (gad G 18), .int (bi im), .ref (gad G 27), .ref (gad G 29), .int iz])) {n : Nat} {f : Nat → Int32} (h1 : c 1 = .inr (0, [.ref (gad G 2), .int (nI n)])) (h2 : c 2 = .inl (gI G, 132, .inl f)) (hn : n ≤ 12) {x h t lo hi : Int32} : Met l yX10_grant (wv yX10_grant cX10_grant 7 (some .int)) ({ frames := 1, cells := 0, slots := 0, locals := 23 } : Room) (va_Pc [.ref (gad G 0), .int x, .int h, .int t, .int lo, .int hi] (fun U => Hw G c U U.heap)) (va_Qi (fun r (c9 : Nat → va_E) => (gOK n x h t lo hi = false ∧ r = -2 ∧ c9 = c) ∨ (∃ a, a < n ∧ x = nI a ∧ gOK n x h t lo hi = true ∧ r = f (a * 11 + 4) ∧ c9 = va_up c 2 (.inl (gI G, 132, .inl (u4 f (a * 11 + 4) h t lo hi))))) (fun c9 t => Hw G c9 t t.heap) (gA G)) 0 0 (gA G) := by
  refine en (by decide +kernel) (by first | exact Nat.le_of_ble_eq_true rfl | decide) ?_
  intro p e s m below meth cd ls hx hb hr hml hown hts hlocks hnm hw hl
  have hl : lv_has ls 7 [(0, .ref (gad G 0)), (1, .int x), (2, .int h), (3, .int t), (4, .int lo), (5, .int hi)] := hl
  have hX : Sw G s s.heap := hw.2.2.2.2.2
  have hS : va_S (gA G) s.heap s.heap [] := va_S.rf
  obtain ⟨H, hH⟩ : ∃ wz9, wz9 = s.heap := ⟨_, rfl⟩
  obtain ⟨locs, hlocs⟩ : ∃ wz9 : List Loc, wz9 = [] := ⟨_, rfl⟩
  have hw : Hw G c s H := by rw [hH]; exact hw
  have hS : va_S (gA G) s.heap H locs := by rw [hH, hlocs]; exact hS
  suffices hgo : W p l e ({ frames := 1, cells := 0, slots := 0, locals := 23 } : Room) s m (([.ref (gad G 0), .int x, .int h, .int t, .int lo, .int hi] : List Value).toArray) below meth cd H locs 0 0 (MQ below (va_Qi (fun r (c9 : Nat → va_E) => (gOK n x h t lo hi = false ∧ r = -2 ∧ c9 = c) ∨ (∃ a, a < n ∧ x = nI a ∧ gOK n x h t lo hi = true ∧ r = f (a * 11 + 4) ∧ c9 = va_up c 2 (.inl (gI G, 132, .inl (u4 f (a * 11 + 4) h t lo hi))))) (fun c9 t => Hw G c9 t t.heap) (gA G)) ([.ref (gad G 0), .int x, .int h, .int t, .int lo, .int hi] : List Value).toArray s 0 0 (gA G)) (F0 m 0 ls []) by rw [hH, hlocs] at hgo; exact hgo
  refine lv_aload_n hx hb dX10_grant_0 rfl (lv_at hl 0 rfl) ?_
  refine w_get (C := RX10) (T := TX10) (N := 12) 0 hx hb hts inX10 hown hw (by decide) o1 rfl (by decide) (hts _ tw_152) rfl dX10_grant_1 ?_
  refine lv_iload_n hx hb dX10_grant_4 rfl (lv_at hl 1 rfl) ?_
  refine cSe (rV (As := [_]) ⟨hx, hb, hml, hown, hts⟩ hw (k_X1_has l (by decide) (by decide) h1 h2 hn) (cv_X1_has hts tw_205 rfl rfl ⟨Nat.le_of_ble_eq_true rfl, Nat.le_of_ble_eq_true rfl⟩) (by decide) h1 rfl rfl hl.1 rfl (by first | exact Nat.le_of_ble_eq_true rfl | decide) dX10_grant_5 ⟨Nat.zero_le _, Nat.zero_le _⟩) ?_
  refine zb_eq (tgt := 20) hx hb dX10_grant_8 (by decide) (fun c8 => ?_) (fun c8 => ?_)
  · refine lv_bipush (v := (-2)) hx hb dX10_grant_20 (by decide) ?_
    exact re_Q hx hb hr hlocks (rfl) hw hS dX10_grant_22 (Or.inl ⟨by simp [gOK, ndT, c8], rfl, rfl⟩)
  · refine lv_iload_n hx hb dX10_grant_11 rfl (lv_at hl 2 rfl) ?_
    refine lv_iconst (v := 0) hx hb dX10_grant_12 (by decide) ?_
    refine lv_iconst (v := 4) hx hb dX10_grant_13 (by decide) ?_
    refine cSe (rST (As := [_, _, _]) ⟨hx, hb, hml, hown, hts⟩ (k_X10_within l ) (cv_X10_within hts tw_209 rfl rfl ⟨Nat.le_of_ble_eq_true rfl, Nat.le_of_ble_eq_true rfl⟩) rfl hl.1 rfl (by first | exact Nat.le_of_ble_eq_true rfl | decide) dX10_grant_14 ⟨Nat.zero_le _, Nat.zero_le _⟩) ?_
    refine zb_ne (tgt := 23) hx hb dX10_grant_17 (by decide) (fun c17 => ?_) (fun c17 => ?_)
    · refine lv_iload_n hx hb dX10_grant_23 rfl (lv_at hl 3 rfl) ?_
      refine lv_iconst (v := 0) hx hb dX10_grant_24 (by decide) ?_
      refine lv_iload_n hx hb dX10_grant_25 rfl (lv_at hl 2 rfl) ?_
      refine cSe (rST (As := [_]) ⟨hx, hb, hml, hown, hts⟩ (k_X1_grantNeedsTrait l ) (cv_X1_grantNeedsTrait hts tw_224 rfl rfl ⟨Nat.le_of_ble_eq_true rfl, Nat.le_of_ble_eq_true rfl⟩) rfl hl.1 rfl (by first | exact Nat.le_of_ble_eq_true rfl | decide) dX10_grant_26 ⟨Nat.zero_le _, Nat.zero_le _⟩) ?_
      refine zb_eq (tgt := 36) hx hb dX10_grant_29 (by decide) (fun c29 => ?_) (fun c29 => ?_)
      · refine lv_iconst (v := 0) hx hb dX10_grant_36 (by decide) ?_
        refine cSe (rST (As := [_, _, _]) ⟨hx, hb, hml, hown, hts⟩ (k_X10_within l ) (cv_X10_within hts tw_209 rfl rfl ⟨Nat.le_of_ble_eq_true rfl, Nat.le_of_ble_eq_true rfl⟩) rfl hl.1 rfl (by first | exact Nat.le_of_ble_eq_true rfl | decide) dX10_grant_37 ⟨Nat.zero_le _, Nat.zero_le _⟩) ?_
        refine zb_ne (tgt := 46) hx hb dX10_grant_40 (by decide) (fun c40 => ?_) (fun c40 => ?_)
        · refine lv_iload hx hb dX10_grant_46 (lv_at hl 4 rfl) ?_
          refine lv_iconst (v := 0) hx hb dX10_grant_48 (by decide) ?_
          refine lv_sipush (v := 999) hx hb dX10_grant_49 (by decide) ?_
          refine cSe (rST (As := [_, _, _]) ⟨hx, hb, hml, hown, hts⟩ (k_X10_within l ) (cv_X10_within hts tw_209 rfl rfl ⟨Nat.le_of_ble_eq_true rfl, Nat.le_of_ble_eq_true rfl⟩) rfl hl.1 rfl (by first | exact Nat.le_of_ble_eq_true rfl | decide) dX10_grant_52 ⟨Nat.zero_le _, Nat.zero_le _⟩) ?_
          refine zb_ne (tgt := 61) hx hb dX10_grant_55 (by decide) (fun c55 => ?_) (fun c55 => ?_)
          · refine lv_iload hx hb dX10_grant_61 (lv_at hl 5 rfl) ?_
            refine lv_iload_n hx hb dX10_grant_63 rfl (lv_at hl 2 rfl) ?_
            refine cSe (rST (As := [_]) ⟨hx, hb, hml, hown, hts⟩ (k_X1_leastPart l ) (cv_X1_leastPart hts tw_227 rfl rfl ⟨Nat.le_of_ble_eq_true rfl, Nat.le_of_ble_eq_true rfl⟩) rfl hl.1 rfl (by first | exact Nat.le_of_ble_eq_true rfl | decide) dX10_grant_64 ⟨Nat.zero_le _, Nat.zero_le _⟩) ?_
            refine lv_iload_n hx hb dX10_grant_67 rfl (lv_at hl 2 rfl) ?_
            refine cSe (rST (As := [_]) ⟨hx, hb, hml, hown, hts⟩ (k_X1_mostPart l ) (cv_X1_mostPart hts tw_230 rfl rfl ⟨Nat.le_of_ble_eq_true rfl, Nat.le_of_ble_eq_true rfl⟩) rfl hl.1 rfl (by first | exact Nat.le_of_ble_eq_true rfl | decide) dX10_grant_68 ⟨Nat.zero_le _, Nat.zero_le _⟩) ?_
            refine cSe (rST (As := [_, _, _]) ⟨hx, hb, hml, hown, hts⟩ (k_X10_within l ) (cv_X10_within hts tw_209 rfl rfl ⟨Nat.le_of_ble_eq_true rfl, Nat.le_of_ble_eq_true rfl⟩) rfl hl.1 rfl (by first | exact Nat.le_of_ble_eq_true rfl | decide) dX10_grant_71 ⟨Nat.zero_le _, Nat.zero_le _⟩) ?_
            refine zb_ne (tgt := 80) hx hb dX10_grant_74 (by decide) (fun c74 => ?_) (fun c74 => ?_)
            · obtain ⟨a, ha, rfl⟩ := hasN_t hn c8
              refine lv_aload_n hx hb dX10_grant_80 rfl (lv_at hl 0 rfl) ?_
              refine w_get (C := RX10) (T := TX10) (N := 12) 0 hx hb hts inX10 hown hw (by decide) o1 rfl (by decide) (hts _ tw_152) rfl dX10_grant_81 ?_
              refine lv_iload_n hx hb dX10_grant_84 rfl (lv_at hl 1 rfl) ?_
              refine lv_iconst (v := 4) hx hb dX10_grant_85 (by decide) ?_
              refine cSe (rV (As := [_, _]) ⟨hx, hb, hml, hown, hts⟩ hw (k_X1_at l (by decide) (by decide) h1 h2 hn (ix a 4) (by omega)) (cv_X1_at hts tw_215 rfl rfl ⟨Nat.le_of_ble_eq_true rfl, Nat.le_of_ble_eq_true rfl⟩) (by decide) h1 rfl rfl hl.1 rfl (by first | exact Nat.le_of_ble_eq_true rfl | decide) dX10_grant_86 ⟨Nat.zero_le _, Nat.zero_le _⟩) ?_
              refine lv_istore (lv' := [(6, _), (0, _), (1, _), (2, _), (3, _), (4, _), (5, _)]) hx hb dX10_grant_89 hl (by decide) rfl (fun ls hl => ?_)
              refine lv_aload_n hx hb dX10_grant_91 rfl (lv_at hl 1 rfl) ?_
              refine w_get (C := RX10) (T := TX10) (N := 12) 0 hx hb hts inX10 hown hw (by decide) o1 rfl (by decide) (hts _ tw_152) rfl dX10_grant_92 ?_
              refine lv_iload_n hx hb dX10_grant_95 rfl (lv_at hl 2 rfl) ?_
              refine lv_iconst (v := 4) hx hb dX10_grant_96 (by decide) ?_
              refine lv_iload_n hx hb dX10_grant_97 rfl (lv_at hl 3 rfl) ?_
              refine cQv (rV (As := [_, _, _]) ⟨hx, hb, hml, hown, hts⟩ hw (k_X1_put l (by decide) (by decide) h1 h2 hn (ix a 4) (by omega)) (cv_X1_put hts tw_219 rfl rfl ⟨Nat.le_of_ble_eq_true rfl, Nat.le_of_ble_eq_true rfl⟩) (by decide) h1 rfl rfl hl.1 rfl (by first | exact Nat.le_of_ble_eq_true rfl | decide) dX10_grant_98 ⟨Nat.zero_le _, Nat.zero_le _⟩) hw hS (fun w1 H locs hp98 hw hS => ?_)
              have o1_1 : w1 0 = .inr (8, [.ref (gad G 1), .ref (gad G 3), .ref (gad G 5), .ref (gad G 8), .ref (gad G 9), .ref (gad G 11), .ref (gad G 16), .ref (gad G 18), .int (bi im), .ref (gad G 27), .ref (gad G 29), .int iz]) := by rw [hp98]; exact vu_e (by decide) o1
              have h1_1 : w1 1 = .inr (0, [.ref (gad G 2), .int (nI n)]) := by rw [hp98]; exact vu_e (by decide) h1
              have h2_1 : w1 2 = .inl (gI G, 132, .inl (upd f (a * 11 + 4) (h))) := by rw [hp98]; exact vu_s
              refine lv_aload_n hx hb dX10_grant_101 rfl (lv_at hl 1 rfl) ?_
              refine w_get (C := RX10) (T := TX10) (N := 12) 0 hx hb hts inX10 hown hw (by decide) o1_1 rfl (by decide) (hts _ tw_152) rfl dX10_grant_102 ?_
              refine lv_iload_n hx hb dX10_grant_105 rfl (lv_at hl 2 rfl) ?_
              refine lv_iconst (v := 5) hx hb dX10_grant_106 (by decide) ?_
              refine lv_iload_n hx hb dX10_grant_107 rfl (lv_at hl 4 rfl) ?_
              refine cQv (rV (As := [_, _, _]) ⟨hx, hb, hml, hown, hts⟩ hw (k_X1_put l (by decide) (by decide) h1_1 h2_1 hn (ix a 5) (by omega)) (cv_X1_put hts tw_219 rfl rfl ⟨Nat.le_of_ble_eq_true rfl, Nat.le_of_ble_eq_true rfl⟩) (by decide) h1_1 rfl rfl hl.1 rfl (by first | exact Nat.le_of_ble_eq_true rfl | decide) dX10_grant_108 ⟨Nat.zero_le _, Nat.zero_le _⟩) hw hS (fun w2 H locs hp108 hw hS => ?_)
              have o1_2 : w2 0 = .inr (8, [.ref (gad G 1), .ref (gad G 3), .ref (gad G 5), .ref (gad G 8), .ref (gad G 9), .ref (gad G 11), .ref (gad G 16), .ref (gad G 18), .int (bi im), .ref (gad G 27), .ref (gad G 29), .int iz]) := by rw [hp108]; exact vu_e (by decide) o1_1
              have h1_2 : w2 1 = .inr (0, [.ref (gad G 2), .int (nI n)]) := by rw [hp108]; exact vu_e (by decide) h1_1
              have h2_2 : w2 2 = .inl (gI G, 132, .inl (upd (upd f (a * 11 + 4) (h)) (a * 11 + 5) (t))) := by rw [hp108]; exact vu_s
              refine lv_aload_n hx hb dX10_grant_111 rfl (lv_at hl 1 rfl) ?_
              refine w_get (C := RX10) (T := TX10) (N := 12) 0 hx hb hts inX10 hown hw (by decide) o1_2 rfl (by decide) (hts _ tw_152) rfl dX10_grant_112 ?_
              refine lv_iload_n hx hb dX10_grant_115 rfl (lv_at hl 2 rfl) ?_
              refine lv_bipush (v := 6) hx hb dX10_grant_116 (by decide) ?_
              refine lv_iload hx hb dX10_grant_118 (lv_at hl 5 rfl) ?_
              refine cQv (rV (As := [_, _, _]) ⟨hx, hb, hml, hown, hts⟩ hw (k_X1_put l (by decide) (by decide) h1_2 h2_2 hn (ix a 6) (by omega)) (cv_X1_put hts tw_219 rfl rfl ⟨Nat.le_of_ble_eq_true rfl, Nat.le_of_ble_eq_true rfl⟩) (by decide) h1_2 rfl rfl hl.1 rfl (by first | exact Nat.le_of_ble_eq_true rfl | decide) dX10_grant_120 ⟨Nat.zero_le _, Nat.zero_le _⟩) hw hS (fun w3 H locs hp120 hw hS => ?_)
              have o1_3 : w3 0 = .inr (8, [.ref (gad G 1), .ref (gad G 3), .ref (gad G 5), .ref (gad G 8), .ref (gad G 9), .ref (gad G 11), .ref (gad G 16), .ref (gad G 18), .int (bi im), .ref (gad G 27), .ref (gad G 29), .int iz]) := by rw [hp120]; exact vu_e (by decide) o1_2
              have h1_3 : w3 1 = .inr (0, [.ref (gad G 2), .int (nI n)]) := by rw [hp120]; exact vu_e (by decide) h1_2
              have h2_3 : w3 2 = .inl (gI G, 132, .inl (upd (upd (upd f (a * 11 + 4) (h)) (a * 11 + 5) (t)) (a * 11 + 6) (lo))) := by rw [hp120]; exact vu_s
              refine lv_aload_n hx hb dX10_grant_123 rfl (lv_at hl 1 rfl) ?_
              refine w_get (C := RX10) (T := TX10) (N := 12) 0 hx hb hts inX10 hown hw (by decide) o1_3 rfl (by decide) (hts _ tw_152) rfl dX10_grant_124 ?_
              refine lv_iload_n hx hb dX10_grant_127 rfl (lv_at hl 2 rfl) ?_
              refine lv_bipush (v := 7) hx hb dX10_grant_128 (by decide) ?_
              refine lv_iload hx hb dX10_grant_130 (lv_at hl 6 rfl) ?_
              refine cQv (rV (As := [_, _, _]) ⟨hx, hb, hml, hown, hts⟩ hw (k_X1_put l (by decide) (by decide) h1_3 h2_3 hn (ix a 7) (by omega)) (cv_X1_put hts tw_219 rfl rfl ⟨Nat.le_of_ble_eq_true rfl, Nat.le_of_ble_eq_true rfl⟩) (by decide) h1_3 rfl rfl hl.1 rfl (by first | exact Nat.le_of_ble_eq_true rfl | decide) dX10_grant_132 ⟨Nat.zero_le _, Nat.zero_le _⟩) hw hS (fun w4 H locs hp132 hw hS => ?_)
              have o1_4 : w4 0 = .inr (8, [.ref (gad G 1), .ref (gad G 3), .ref (gad G 5), .ref (gad G 8), .ref (gad G 9), .ref (gad G 11), .ref (gad G 16), .ref (gad G 18), .int (bi im), .ref (gad G 27), .ref (gad G 29), .int iz]) := by rw [hp132]; exact vu_e (by decide) o1_3
              have h1_4 : w4 1 = .inr (0, [.ref (gad G 2), .int (nI n)]) := by rw [hp132]; exact vu_e (by decide) h1_3
              have h2_4 : w4 2 = .inl (gI G, 132, .inl (upd (upd (upd (upd f (a * 11 + 4) (h)) (a * 11 + 5) (t)) (a * 11 + 6) (lo)) (a * 11 + 7) (hi))) := by rw [hp132]; exact vu_s
              refine lv_iload hx hb dX10_grant_135 (lv_at hl 0 rfl) ?_
              exact re_Q hx hb hr hlocks (rfl) hw hS dX10_grant_137 (Or.inr ⟨a, ha, rfl, by simp [gOK, ndT, c8, c17, c29, c40, c55, c74], rfl, by rw [hp132, hp120, hp108, hp98, up_up, up_up, up_up]; rfl⟩)
            · refine lv_bipush (v := (-2)) hx hb dX10_grant_77 (by decide) ?_
              exact re_Q hx hb hr hlocks (rfl) hw hS dX10_grant_79 (Or.inl ⟨by simp [gOK, ndT, c8, c17, c29, c40, c55, c74], rfl, rfl⟩)
          · refine lv_bipush (v := (-2)) hx hb dX10_grant_58 (by decide) ?_
            exact re_Q hx hb hr hlocks (rfl) hw hS dX10_grant_60 (Or.inl ⟨by simp [gOK, ndT, c8, c17, c29, c40, c55], rfl, rfl⟩)
        · refine lv_bipush (v := (-2)) hx hb dX10_grant_43 (by decide) ?_
          exact re_Q hx hb hr hlocks (rfl) hw hS dX10_grant_45 (Or.inl ⟨by simp [gOK, ndT, c8, c17, c29, c40], rfl, rfl⟩)
      · refine lv_iconst (v := 3) hx hb dX10_grant_32 (by decide) ?_
        refine lv_goto (tgt := 37) hx hb dX10_grant_33 (by decide) ?_
        refine cSe (rST (As := [_, _, _]) ⟨hx, hb, hml, hown, hts⟩ (k_X10_within l ) (cv_X10_within hts tw_209 rfl rfl ⟨Nat.le_of_ble_eq_true rfl, Nat.le_of_ble_eq_true rfl⟩) rfl hl.1 rfl (by first | exact Nat.le_of_ble_eq_true rfl | decide) dX10_grant_37 ⟨Nat.zero_le _, Nat.zero_le _⟩) ?_
        refine zb_ne (tgt := 46) hx hb dX10_grant_40 (by decide) (fun c40 => ?_) (fun c40 => ?_)
        · refine lv_iload hx hb dX10_grant_46 (lv_at hl 4 rfl) ?_
          refine lv_iconst (v := 0) hx hb dX10_grant_48 (by decide) ?_
          refine lv_sipush (v := 999) hx hb dX10_grant_49 (by decide) ?_
          refine cSe (rST (As := [_, _, _]) ⟨hx, hb, hml, hown, hts⟩ (k_X10_within l ) (cv_X10_within hts tw_209 rfl rfl ⟨Nat.le_of_ble_eq_true rfl, Nat.le_of_ble_eq_true rfl⟩) rfl hl.1 rfl (by first | exact Nat.le_of_ble_eq_true rfl | decide) dX10_grant_52 ⟨Nat.zero_le _, Nat.zero_le _⟩) ?_
          refine zb_ne (tgt := 61) hx hb dX10_grant_55 (by decide) (fun c55 => ?_) (fun c55 => ?_)
          · refine lv_iload hx hb dX10_grant_61 (lv_at hl 5 rfl) ?_
            refine lv_iload_n hx hb dX10_grant_63 rfl (lv_at hl 2 rfl) ?_
            refine cSe (rST (As := [_]) ⟨hx, hb, hml, hown, hts⟩ (k_X1_leastPart l ) (cv_X1_leastPart hts tw_227 rfl rfl ⟨Nat.le_of_ble_eq_true rfl, Nat.le_of_ble_eq_true rfl⟩) rfl hl.1 rfl (by first | exact Nat.le_of_ble_eq_true rfl | decide) dX10_grant_64 ⟨Nat.zero_le _, Nat.zero_le _⟩) ?_
            refine lv_iload_n hx hb dX10_grant_67 rfl (lv_at hl 2 rfl) ?_
            refine cSe (rST (As := [_]) ⟨hx, hb, hml, hown, hts⟩ (k_X1_mostPart l ) (cv_X1_mostPart hts tw_230 rfl rfl ⟨Nat.le_of_ble_eq_true rfl, Nat.le_of_ble_eq_true rfl⟩) rfl hl.1 rfl (by first | exact Nat.le_of_ble_eq_true rfl | decide) dX10_grant_68 ⟨Nat.zero_le _, Nat.zero_le _⟩) ?_
            refine cSe (rST (As := [_, _, _]) ⟨hx, hb, hml, hown, hts⟩ (k_X10_within l ) (cv_X10_within hts tw_209 rfl rfl ⟨Nat.le_of_ble_eq_true rfl, Nat.le_of_ble_eq_true rfl⟩) rfl hl.1 rfl (by first | exact Nat.le_of_ble_eq_true rfl | decide) dX10_grant_71 ⟨Nat.zero_le _, Nat.zero_le _⟩) ?_
            refine zb_ne (tgt := 80) hx hb dX10_grant_74 (by decide) (fun c74 => ?_) (fun c74 => ?_)
            · obtain ⟨a, ha, rfl⟩ := hasN_t hn c8
              refine lv_aload_n hx hb dX10_grant_80 rfl (lv_at hl 0 rfl) ?_
              refine w_get (C := RX10) (T := TX10) (N := 12) 0 hx hb hts inX10 hown hw (by decide) o1 rfl (by decide) (hts _ tw_152) rfl dX10_grant_81 ?_
              refine lv_iload_n hx hb dX10_grant_84 rfl (lv_at hl 1 rfl) ?_
              refine lv_iconst (v := 4) hx hb dX10_grant_85 (by decide) ?_
              refine cSe (rV (As := [_, _]) ⟨hx, hb, hml, hown, hts⟩ hw (k_X1_at l (by decide) (by decide) h1 h2 hn (ix a 4) (by omega)) (cv_X1_at hts tw_215 rfl rfl ⟨Nat.le_of_ble_eq_true rfl, Nat.le_of_ble_eq_true rfl⟩) (by decide) h1 rfl rfl hl.1 rfl (by first | exact Nat.le_of_ble_eq_true rfl | decide) dX10_grant_86 ⟨Nat.zero_le _, Nat.zero_le _⟩) ?_
              refine lv_istore (lv' := [(6, _), (0, _), (1, _), (2, _), (3, _), (4, _), (5, _)]) hx hb dX10_grant_89 hl (by decide) rfl (fun ls hl => ?_)
              refine lv_aload_n hx hb dX10_grant_91 rfl (lv_at hl 1 rfl) ?_
              refine w_get (C := RX10) (T := TX10) (N := 12) 0 hx hb hts inX10 hown hw (by decide) o1 rfl (by decide) (hts _ tw_152) rfl dX10_grant_92 ?_
              refine lv_iload_n hx hb dX10_grant_95 rfl (lv_at hl 2 rfl) ?_
              refine lv_iconst (v := 4) hx hb dX10_grant_96 (by decide) ?_
              refine lv_iload_n hx hb dX10_grant_97 rfl (lv_at hl 3 rfl) ?_
              refine cQv (rV (As := [_, _, _]) ⟨hx, hb, hml, hown, hts⟩ hw (k_X1_put l (by decide) (by decide) h1 h2 hn (ix a 4) (by omega)) (cv_X1_put hts tw_219 rfl rfl ⟨Nat.le_of_ble_eq_true rfl, Nat.le_of_ble_eq_true rfl⟩) (by decide) h1 rfl rfl hl.1 rfl (by first | exact Nat.le_of_ble_eq_true rfl | decide) dX10_grant_98 ⟨Nat.zero_le _, Nat.zero_le _⟩) hw hS (fun w5 H locs hp98 hw hS => ?_)
              have o1_5 : w5 0 = .inr (8, [.ref (gad G 1), .ref (gad G 3), .ref (gad G 5), .ref (gad G 8), .ref (gad G 9), .ref (gad G 11), .ref (gad G 16), .ref (gad G 18), .int (bi im), .ref (gad G 27), .ref (gad G 29), .int iz]) := by rw [hp98]; exact vu_e (by decide) o1
              have h1_5 : w5 1 = .inr (0, [.ref (gad G 2), .int (nI n)]) := by rw [hp98]; exact vu_e (by decide) h1
              have h2_5 : w5 2 = .inl (gI G, 132, .inl (upd f (a * 11 + 4) (h))) := by rw [hp98]; exact vu_s
              refine lv_aload_n hx hb dX10_grant_101 rfl (lv_at hl 1 rfl) ?_
              refine w_get (C := RX10) (T := TX10) (N := 12) 0 hx hb hts inX10 hown hw (by decide) o1_5 rfl (by decide) (hts _ tw_152) rfl dX10_grant_102 ?_
              refine lv_iload_n hx hb dX10_grant_105 rfl (lv_at hl 2 rfl) ?_
              refine lv_iconst (v := 5) hx hb dX10_grant_106 (by decide) ?_
              refine lv_iload_n hx hb dX10_grant_107 rfl (lv_at hl 4 rfl) ?_
              refine cQv (rV (As := [_, _, _]) ⟨hx, hb, hml, hown, hts⟩ hw (k_X1_put l (by decide) (by decide) h1_5 h2_5 hn (ix a 5) (by omega)) (cv_X1_put hts tw_219 rfl rfl ⟨Nat.le_of_ble_eq_true rfl, Nat.le_of_ble_eq_true rfl⟩) (by decide) h1_5 rfl rfl hl.1 rfl (by first | exact Nat.le_of_ble_eq_true rfl | decide) dX10_grant_108 ⟨Nat.zero_le _, Nat.zero_le _⟩) hw hS (fun w6 H locs hp108 hw hS => ?_)
              have o1_6 : w6 0 = .inr (8, [.ref (gad G 1), .ref (gad G 3), .ref (gad G 5), .ref (gad G 8), .ref (gad G 9), .ref (gad G 11), .ref (gad G 16), .ref (gad G 18), .int (bi im), .ref (gad G 27), .ref (gad G 29), .int iz]) := by rw [hp108]; exact vu_e (by decide) o1_5
              have h1_6 : w6 1 = .inr (0, [.ref (gad G 2), .int (nI n)]) := by rw [hp108]; exact vu_e (by decide) h1_5
              have h2_6 : w6 2 = .inl (gI G, 132, .inl (upd (upd f (a * 11 + 4) (h)) (a * 11 + 5) (t))) := by rw [hp108]; exact vu_s
              refine lv_aload_n hx hb dX10_grant_111 rfl (lv_at hl 1 rfl) ?_
              refine w_get (C := RX10) (T := TX10) (N := 12) 0 hx hb hts inX10 hown hw (by decide) o1_6 rfl (by decide) (hts _ tw_152) rfl dX10_grant_112 ?_
              refine lv_iload_n hx hb dX10_grant_115 rfl (lv_at hl 2 rfl) ?_
              refine lv_bipush (v := 6) hx hb dX10_grant_116 (by decide) ?_
              refine lv_iload hx hb dX10_grant_118 (lv_at hl 5 rfl) ?_
              refine cQv (rV (As := [_, _, _]) ⟨hx, hb, hml, hown, hts⟩ hw (k_X1_put l (by decide) (by decide) h1_6 h2_6 hn (ix a 6) (by omega)) (cv_X1_put hts tw_219 rfl rfl ⟨Nat.le_of_ble_eq_true rfl, Nat.le_of_ble_eq_true rfl⟩) (by decide) h1_6 rfl rfl hl.1 rfl (by first | exact Nat.le_of_ble_eq_true rfl | decide) dX10_grant_120 ⟨Nat.zero_le _, Nat.zero_le _⟩) hw hS (fun w7 H locs hp120 hw hS => ?_)
              have o1_7 : w7 0 = .inr (8, [.ref (gad G 1), .ref (gad G 3), .ref (gad G 5), .ref (gad G 8), .ref (gad G 9), .ref (gad G 11), .ref (gad G 16), .ref (gad G 18), .int (bi im), .ref (gad G 27), .ref (gad G 29), .int iz]) := by rw [hp120]; exact vu_e (by decide) o1_6
              have h1_7 : w7 1 = .inr (0, [.ref (gad G 2), .int (nI n)]) := by rw [hp120]; exact vu_e (by decide) h1_6
              have h2_7 : w7 2 = .inl (gI G, 132, .inl (upd (upd (upd f (a * 11 + 4) (h)) (a * 11 + 5) (t)) (a * 11 + 6) (lo))) := by rw [hp120]; exact vu_s
              refine lv_aload_n hx hb dX10_grant_123 rfl (lv_at hl 1 rfl) ?_
              refine w_get (C := RX10) (T := TX10) (N := 12) 0 hx hb hts inX10 hown hw (by decide) o1_7 rfl (by decide) (hts _ tw_152) rfl dX10_grant_124 ?_
              refine lv_iload_n hx hb dX10_grant_127 rfl (lv_at hl 2 rfl) ?_
              refine lv_bipush (v := 7) hx hb dX10_grant_128 (by decide) ?_
              refine lv_iload hx hb dX10_grant_130 (lv_at hl 6 rfl) ?_
              refine cQv (rV (As := [_, _, _]) ⟨hx, hb, hml, hown, hts⟩ hw (k_X1_put l (by decide) (by decide) h1_7 h2_7 hn (ix a 7) (by omega)) (cv_X1_put hts tw_219 rfl rfl ⟨Nat.le_of_ble_eq_true rfl, Nat.le_of_ble_eq_true rfl⟩) (by decide) h1_7 rfl rfl hl.1 rfl (by first | exact Nat.le_of_ble_eq_true rfl | decide) dX10_grant_132 ⟨Nat.zero_le _, Nat.zero_le _⟩) hw hS (fun w8 H locs hp132 hw hS => ?_)
              have o1_8 : w8 0 = .inr (8, [.ref (gad G 1), .ref (gad G 3), .ref (gad G 5), .ref (gad G 8), .ref (gad G 9), .ref (gad G 11), .ref (gad G 16), .ref (gad G 18), .int (bi im), .ref (gad G 27), .ref (gad G 29), .int iz]) := by rw [hp132]; exact vu_e (by decide) o1_7
              have h1_8 : w8 1 = .inr (0, [.ref (gad G 2), .int (nI n)]) := by rw [hp132]; exact vu_e (by decide) h1_7
              have h2_8 : w8 2 = .inl (gI G, 132, .inl (upd (upd (upd (upd f (a * 11 + 4) (h)) (a * 11 + 5) (t)) (a * 11 + 6) (lo)) (a * 11 + 7) (hi))) := by rw [hp132]; exact vu_s
              refine lv_iload hx hb dX10_grant_135 (lv_at hl 0 rfl) ?_
              exact re_Q hx hb hr hlocks (rfl) hw hS dX10_grant_137 (Or.inr ⟨a, ha, rfl, by simp [gOK, ndT, c8, c17, c29, c40, c55, c74], rfl, by rw [hp132, hp120, hp108, hp98, up_up, up_up, up_up]; rfl⟩)
            · refine lv_bipush (v := (-2)) hx hb dX10_grant_77 (by decide) ?_
              exact re_Q hx hb hr hlocks (rfl) hw hS dX10_grant_79 (Or.inl ⟨by simp [gOK, ndT, c8, c17, c29, c40, c55, c74], rfl, rfl⟩)
          · refine lv_bipush (v := (-2)) hx hb dX10_grant_58 (by decide) ?_
            exact re_Q hx hb hr hlocks (rfl) hw hS dX10_grant_60 (Or.inl ⟨by simp [gOK, ndT, c8, c17, c29, c40, c55], rfl, rfl⟩)
        · refine lv_bipush (v := (-2)) hx hb dX10_grant_43 (by decide) ?_
          exact re_Q hx hb hr hlocks (rfl) hw hS dX10_grant_45 (Or.inl ⟨by simp [gOK, ndT, c8, c17, c29, c40], rfl, rfl⟩)
    · refine lv_bipush (v := (-2)) hx hb dX10_grant_20 (by decide) ?_
      exact re_Q hx hb hr hlocks (rfl) hw hS dX10_grant_22 (Or.inl ⟨by simp [gOK, ndT, c8, c17], rfl, rfl⟩)
set_option maxHeartbeats 4000000 in
set_option maxRecDepth 100000 in
theorem k_X10_span (l : Launch) {G : GT} {c : Nat → va_E} {im : Bool} {iz : Int32} (o1 : c 0 = .inr (8, [.ref (gad G 1), .ref (gad G 3), .ref (gad G 5), .ref (gad G 8), .ref (gad G 9), .ref (gad G 11), .ref (gad G 16), .ref (gad G 18), .int (bi im), .ref (gad G 27), .ref (gad G 29), .int iz])) {n : Nat} {f : Nat → Int32} (h1 : c 1 = .inr (0, [.ref (gad G 2), .int (nI n)])) (h2 : c 2 = .inl (gI G, 132, .inl f)) (hn : n ≤ 12) {x a0 b0 : Int32} : Met l yX10_span (wv yX10_span cX10_span 4 (some .int)) ({ frames := 2, cells := 0, slots := 0, locals := 42 } : Room) (va_Pc [.ref (gad G 0), .int x, .int a0, .int b0] (fun U => Hw G c U U.heap)) (va_Qi (fun r (c9 : Nat → va_E) => (sOK n x a0 b0 = false ∧ r = -2 ∧ c9 = c) ∨ (∃ a, a < n ∧ x = nI a ∧ sOK n x a0 b0 = true ∧ r = 1 ∧ c9 = va_up c 2 (.inl (gI G, 132, .inl (u2 f (a * 11 + 8) a0 b0))))) (fun c9 t => Hw G c9 t t.heap) (gA G)) 0 0 (gA G) := by
  refine en (by decide +kernel) (by first | exact Nat.le_of_ble_eq_true rfl | decide) ?_
  intro p e s m below meth cd ls hx hb hr hml hown hts hlocks hnm hw hl
  have hl : lv_has ls 4 [(0, .ref (gad G 0)), (1, .int x), (2, .int a0), (3, .int b0)] := hl
  have hX : Sw G s s.heap := hw.2.2.2.2.2
  have hS : va_S (gA G) s.heap s.heap [] := va_S.rf
  obtain ⟨H, hH⟩ : ∃ wz9, wz9 = s.heap := ⟨_, rfl⟩
  obtain ⟨locs, hlocs⟩ : ∃ wz9 : List Loc, wz9 = [] := ⟨_, rfl⟩
  have hw : Hw G c s H := by rw [hH]; exact hw
  have hS : va_S (gA G) s.heap H locs := by rw [hH, hlocs]; exact hS
  suffices hgo : W p l e ({ frames := 2, cells := 0, slots := 0, locals := 42 } : Room) s m (([.ref (gad G 0), .int x, .int a0, .int b0] : List Value).toArray) below meth cd H locs 0 0 (MQ below (va_Qi (fun r (c9 : Nat → va_E) => (sOK n x a0 b0 = false ∧ r = -2 ∧ c9 = c) ∨ (∃ a, a < n ∧ x = nI a ∧ sOK n x a0 b0 = true ∧ r = 1 ∧ c9 = va_up c 2 (.inl (gI G, 132, .inl (u2 f (a * 11 + 8) a0 b0))))) (fun c9 t => Hw G c9 t t.heap) (gA G)) ([.ref (gad G 0), .int x, .int a0, .int b0] : List Value).toArray s 0 0 (gA G)) (F0 m 0 ls []) by rw [hH, hlocs] at hgo; exact hgo
  refine lv_aload_n hx hb dX10_span_0 rfl (lv_at hl 0 rfl) ?_
  refine w_get (C := RX10) (T := TX10) (N := 12) 0 hx hb hts inX10 hown hw (by decide) o1 rfl (by decide) (hts _ tw_152) rfl dX10_span_1 ?_
  refine lv_iload_n hx hb dX10_span_4 rfl (lv_at hl 1 rfl) ?_
  refine cSe (rV (As := [_]) ⟨hx, hb, hml, hown, hts⟩ hw (k_X1_has l (by decide) (by decide) h1 h2 hn) (cv_X1_has hts tw_205 rfl rfl ⟨Nat.le_of_ble_eq_true rfl, Nat.le_of_ble_eq_true rfl⟩) (by decide) h1 rfl rfl hl.1 rfl (by first | exact Nat.le_of_ble_eq_true rfl | decide) dX10_span_5 ⟨Nat.zero_le _, Nat.zero_le _⟩) ?_
  refine zb_eq (tgt := 30) hx hb dX10_span_8 (by decide) (fun c8 => ?_) (fun c8 => ?_)
  · refine lv_bipush (v := (-2)) hx hb dX10_span_30 (by decide) ?_
    exact re_Q hx hb hr hlocks (rfl) hw hS dX10_span_32 (Or.inl ⟨by simp [sOK, c8], rfl, rfl⟩)
  · refine lv_iload_n hx hb dX10_span_11 rfl (lv_at hl 2 rfl) ?_
    refine cSe (rST (As := [_]) ⟨hx, hb, hml, hown, hts⟩ (k_X10_isDay l ) (cv_X10_isDay hts tw_237 rfl rfl ⟨Nat.le_of_ble_eq_true rfl, Nat.le_of_ble_eq_true rfl⟩) rfl hl.1 rfl (by first | exact Nat.le_of_ble_eq_true rfl | decide) dX10_span_12 ⟨Nat.zero_le _, Nat.zero_le _⟩) ?_
    refine zb_eq (tgt := 30) hx hb dX10_span_15 (by decide) (fun c15 => ?_) (fun c15 => ?_)
    · refine lv_bipush (v := (-2)) hx hb dX10_span_30 (by decide) ?_
      exact re_Q hx hb hr hlocks (rfl) hw hS dX10_span_32 (Or.inl ⟨by simp [sOK, c8, c15], rfl, rfl⟩)
    · refine lv_iload_n hx hb dX10_span_18 rfl (lv_at hl 3 rfl) ?_
      refine cSe (rST (As := [_]) ⟨hx, hb, hml, hown, hts⟩ (k_X10_isDay l ) (cv_X10_isDay hts tw_237 rfl rfl ⟨Nat.le_of_ble_eq_true rfl, Nat.le_of_ble_eq_true rfl⟩) rfl hl.1 rfl (by first | exact Nat.le_of_ble_eq_true rfl | decide) dX10_span_19 ⟨Nat.zero_le _, Nat.zero_le _⟩) ?_
      refine zb_eq (tgt := 30) hx hb dX10_span_22 (by decide) (fun c22 => ?_) (fun c22 => ?_)
      · refine lv_bipush (v := (-2)) hx hb dX10_span_30 (by decide) ?_
        exact re_Q hx hb hr hlocks (rfl) hw hS dX10_span_32 (Or.inl ⟨by simp [sOK, c8, c15, c22], rfl, rfl⟩)
      · refine lv_iload_n hx hb dX10_span_25 rfl (lv_at hl 3 rfl) ?_
        refine lv_iload_n hx hb dX10_span_26 rfl (lv_at hl 2 rfl) ?_
        refine lv_icmp_ge (tgt := 33) hx hb dX10_span_27 (by decide) (fun c27 => ?_) (fun c27 => ?_)
        · obtain ⟨a, ha, rfl⟩ := hasN_t hn c8
          refine lv_aload_n hx hb dX10_span_33 rfl (lv_at hl 0 rfl) ?_
          refine w_get (C := RX10) (T := TX10) (N := 12) 0 hx hb hts inX10 hown hw (by decide) o1 rfl (by decide) (hts _ tw_152) rfl dX10_span_34 ?_
          refine lv_iload_n hx hb dX10_span_37 rfl (lv_at hl 1 rfl) ?_
          refine lv_bipush (v := 8) hx hb dX10_span_38 (by decide) ?_
          refine lv_iload_n hx hb dX10_span_40 rfl (lv_at hl 2 rfl) ?_
          refine cQv (rV (As := [_, _, _]) ⟨hx, hb, hml, hown, hts⟩ hw (k_X1_put l (by decide) (by decide) h1 h2 hn (ix a 8) (by omega)) (cv_X1_put hts tw_219 rfl rfl ⟨Nat.le_of_ble_eq_true rfl, Nat.le_of_ble_eq_true rfl⟩) (by decide) h1 rfl rfl hl.1 rfl (by first | exact Nat.le_of_ble_eq_true rfl | decide) dX10_span_41 ⟨Nat.zero_le _, Nat.zero_le _⟩) hw hS (fun w1 H locs hp41 hw hS => ?_)
          have o1_1 : w1 0 = .inr (8, [.ref (gad G 1), .ref (gad G 3), .ref (gad G 5), .ref (gad G 8), .ref (gad G 9), .ref (gad G 11), .ref (gad G 16), .ref (gad G 18), .int (bi im), .ref (gad G 27), .ref (gad G 29), .int iz]) := by rw [hp41]; exact vu_e (by decide) o1
          have h1_1 : w1 1 = .inr (0, [.ref (gad G 2), .int (nI n)]) := by rw [hp41]; exact vu_e (by decide) h1
          have h2_1 : w1 2 = .inl (gI G, 132, .inl (upd f (a * 11 + 8) (a0))) := by rw [hp41]; exact vu_s
          refine lv_aload_n hx hb dX10_span_44 rfl (lv_at hl 0 rfl) ?_
          refine w_get (C := RX10) (T := TX10) (N := 12) 0 hx hb hts inX10 hown hw (by decide) o1_1 rfl (by decide) (hts _ tw_152) rfl dX10_span_45 ?_
          refine lv_iload_n hx hb dX10_span_48 rfl (lv_at hl 1 rfl) ?_
          refine lv_bipush (v := 9) hx hb dX10_span_49 (by decide) ?_
          refine lv_iload_n hx hb dX10_span_51 rfl (lv_at hl 3 rfl) ?_
          refine cQv (rV (As := [_, _, _]) ⟨hx, hb, hml, hown, hts⟩ hw (k_X1_put l (by decide) (by decide) h1_1 h2_1 hn (ix a 9) (by omega)) (cv_X1_put hts tw_219 rfl rfl ⟨Nat.le_of_ble_eq_true rfl, Nat.le_of_ble_eq_true rfl⟩) (by decide) h1_1 rfl rfl hl.1 rfl (by first | exact Nat.le_of_ble_eq_true rfl | decide) dX10_span_52 ⟨Nat.zero_le _, Nat.zero_le _⟩) hw hS (fun w2 H locs hp52 hw hS => ?_)
          have o1_2 : w2 0 = .inr (8, [.ref (gad G 1), .ref (gad G 3), .ref (gad G 5), .ref (gad G 8), .ref (gad G 9), .ref (gad G 11), .ref (gad G 16), .ref (gad G 18), .int (bi im), .ref (gad G 27), .ref (gad G 29), .int iz]) := by rw [hp52]; exact vu_e (by decide) o1_1
          have h1_2 : w2 1 = .inr (0, [.ref (gad G 2), .int (nI n)]) := by rw [hp52]; exact vu_e (by decide) h1_1
          have h2_2 : w2 2 = .inl (gI G, 132, .inl (upd (upd f (a * 11 + 8) (a0)) (a * 11 + 9) (b0))) := by rw [hp52]; exact vu_s
          refine lv_iconst (v := 1) hx hb dX10_span_55 (by decide) ?_
          exact re_Q hx hb hr hlocks (rfl) hw hS dX10_span_56 (Or.inr ⟨a, ha, rfl, by simp [sOK, c8, c15, c22]; exact c27, rfl, by rw [hp52, hp41, up_up]; rfl⟩)
        · refine lv_bipush (v := (-2)) hx hb dX10_span_30 (by decide) ?_
          exact re_Q hx hb hr hlocks (rfl) hw hS dX10_span_32 (Or.inl ⟨by simp [sOK, c8, c15, c22]; exact Int32.not_le.mp c27, rfl, rfl⟩)
set_option maxHeartbeats 4000000 in
set_option maxRecDepth 100000 in
theorem k_X10_except (l : Launch) {G : GT} {c : Nat → va_E} {im : Bool} {iz : Int32} (o1 : c 0 = .inr (8, [.ref (gad G 1), .ref (gad G 3), .ref (gad G 5), .ref (gad G 8), .ref (gad G 9), .ref (gad G 11), .ref (gad G 16), .ref (gad G 18), .int (bi im), .ref (gad G 27), .ref (gad G 29), .int iz])) {n : Nat} {f : Nat → Int32} (h1 : c 1 = .inr (0, [.ref (gad G 2), .int (nI n)])) (h2 : c 2 = .inl (gI G, 132, .inl f)) (hn : n ≤ 12) {x e0 : Int32} : Met l yX10_except (wv yX10_except cX10_except 4 (some .int)) ({ frames := 1, cells := 0, slots := 0, locals := 23 } : Room) (va_Pc [.ref (gad G 0), .int x, .int e0] (fun U => Hw G c U U.heap)) (va_Qi (fun r (c9 : Nat → va_E) => (eOK n x e0 = false ∧ r = -2 ∧ c9 = c) ∨ (∃ a, a < n ∧ x = nI a ∧ eOK n x e0 = true ∧ r = f (a * 11 + 10) ∧ c9 = va_up c 2 (.inl (gI G, 132, .inl (upd f (a * 11 + 10) e0))))) (fun c9 t => Hw G c9 t t.heap) (gA G)) 0 0 (gA G) := by
  refine en (by decide +kernel) (by first | exact Nat.le_of_ble_eq_true rfl | decide) ?_
  intro p e s m below meth cd ls hx hb hr hml hown hts hlocks hnm hw hl
  have hl : lv_has ls 4 [(0, .ref (gad G 0)), (1, .int x), (2, .int e0)] := hl
  have hX : Sw G s s.heap := hw.2.2.2.2.2
  have hS : va_S (gA G) s.heap s.heap [] := va_S.rf
  obtain ⟨H, hH⟩ : ∃ wz9, wz9 = s.heap := ⟨_, rfl⟩
  obtain ⟨locs, hlocs⟩ : ∃ wz9 : List Loc, wz9 = [] := ⟨_, rfl⟩
  have hw : Hw G c s H := by rw [hH]; exact hw
  have hS : va_S (gA G) s.heap H locs := by rw [hH, hlocs]; exact hS
  suffices hgo : W p l e ({ frames := 1, cells := 0, slots := 0, locals := 23 } : Room) s m (([.ref (gad G 0), .int x, .int e0] : List Value).toArray) below meth cd H locs 0 0 (MQ below (va_Qi (fun r (c9 : Nat → va_E) => (eOK n x e0 = false ∧ r = -2 ∧ c9 = c) ∨ (∃ a, a < n ∧ x = nI a ∧ eOK n x e0 = true ∧ r = f (a * 11 + 10) ∧ c9 = va_up c 2 (.inl (gI G, 132, .inl (upd f (a * 11 + 10) e0))))) (fun c9 t => Hw G c9 t t.heap) (gA G)) ([.ref (gad G 0), .int x, .int e0] : List Value).toArray s 0 0 (gA G)) (F0 m 0 ls []) by rw [hH, hlocs] at hgo; exact hgo
  refine lv_aload_n hx hb dX10_except_0 rfl (lv_at hl 0 rfl) ?_
  refine w_get (C := RX10) (T := TX10) (N := 12) 0 hx hb hts inX10 hown hw (by decide) o1 rfl (by decide) (hts _ tw_152) rfl dX10_except_1 ?_
  refine lv_iload_n hx hb dX10_except_4 rfl (lv_at hl 1 rfl) ?_
  refine cSe (rV (As := [_]) ⟨hx, hb, hml, hown, hts⟩ hw (k_X1_has l (by decide) (by decide) h1 h2 hn) (cv_X1_has hts tw_205 rfl rfl ⟨Nat.le_of_ble_eq_true rfl, Nat.le_of_ble_eq_true rfl⟩) (by decide) h1 rfl rfl hl.1 rfl (by first | exact Nat.le_of_ble_eq_true rfl | decide) dX10_except_5 ⟨Nat.zero_le _, Nat.zero_le _⟩) ?_
  refine zb_eq (tgt := 22) hx hb dX10_except_8 (by decide) (fun c8 => ?_) (fun c8 => ?_)
  · refine lv_bipush (v := (-2)) hx hb dX10_except_22 (by decide) ?_
    exact re_Q hx hb hr hlocks (rfl) hw hS dX10_except_24 (Or.inl ⟨by simp [eOK, c8], rfl, rfl⟩)
  · refine lv_iload_n hx hb dX10_except_11 rfl (lv_at hl 2 rfl) ?_
    refine lv_iconst (v := (-1)) hx hb dX10_except_12 (by decide) ?_
    refine lv_iload_n hx hb dX10_except_13 rfl (lv_at hl 1 rfl) ?_
    refine lv_iconst (v := 1) hx hb dX10_except_14 (by decide) ?_
    refine lv_isub hx hb dX10_except_15 ?_
    refine cSe (rST (As := [_, _, _]) ⟨hx, hb, hml, hown, hts⟩ (k_X10_within l ) (cv_X10_within hts tw_209 rfl rfl ⟨Nat.le_of_ble_eq_true rfl, Nat.le_of_ble_eq_true rfl⟩) rfl hl.1 rfl (by first | exact Nat.le_of_ble_eq_true rfl | decide) dX10_except_16 ⟨Nat.zero_le _, Nat.zero_le _⟩) ?_
    refine zb_ne (tgt := 25) hx hb dX10_except_19 (by decide) (fun c19 => ?_) (fun c19 => ?_)
    · obtain ⟨a, ha, rfl⟩ := hasN_t hn c8
      refine lv_aload_n hx hb dX10_except_25 rfl (lv_at hl 0 rfl) ?_
      refine w_get (C := RX10) (T := TX10) (N := 12) 0 hx hb hts inX10 hown hw (by decide) o1 rfl (by decide) (hts _ tw_152) rfl dX10_except_26 ?_
      refine lv_iload_n hx hb dX10_except_29 rfl (lv_at hl 1 rfl) ?_
      refine lv_bipush (v := 10) hx hb dX10_except_30 (by decide) ?_
      refine cSe (rV (As := [_, _]) ⟨hx, hb, hml, hown, hts⟩ hw (k_X1_at l (by decide) (by decide) h1 h2 hn (ix a 10) (by omega)) (cv_X1_at hts tw_215 rfl rfl ⟨Nat.le_of_ble_eq_true rfl, Nat.le_of_ble_eq_true rfl⟩) (by decide) h1 rfl rfl hl.1 rfl (by first | exact Nat.le_of_ble_eq_true rfl | decide) dX10_except_32 ⟨Nat.zero_le _, Nat.zero_le _⟩) ?_
      refine lv_istore_n (lv' := [(3, _), (0, _), (1, _), (2, _)]) hx hb dX10_except_35 rfl hl (by decide) rfl (fun ls hl => ?_)
      refine lv_aload_n hx hb dX10_except_36 rfl (lv_at hl 1 rfl) ?_
      refine w_get (C := RX10) (T := TX10) (N := 12) 0 hx hb hts inX10 hown hw (by decide) o1 rfl (by decide) (hts _ tw_152) rfl dX10_except_37 ?_
      refine lv_iload_n hx hb dX10_except_40 rfl (lv_at hl 2 rfl) ?_
      refine lv_bipush (v := 10) hx hb dX10_except_41 (by decide) ?_
      refine lv_iload_n hx hb dX10_except_43 rfl (lv_at hl 3 rfl) ?_
      refine cQv (rV (As := [_, _, _]) ⟨hx, hb, hml, hown, hts⟩ hw (k_X1_put l (by decide) (by decide) h1 h2 hn (ix a 10) (by omega)) (cv_X1_put hts tw_219 rfl rfl ⟨Nat.le_of_ble_eq_true rfl, Nat.le_of_ble_eq_true rfl⟩) (by decide) h1 rfl rfl hl.1 rfl (by first | exact Nat.le_of_ble_eq_true rfl | decide) dX10_except_44 ⟨Nat.zero_le _, Nat.zero_le _⟩) hw hS (fun w1 H locs hp44 hw hS => ?_)
      have o1_1 : w1 0 = .inr (8, [.ref (gad G 1), .ref (gad G 3), .ref (gad G 5), .ref (gad G 8), .ref (gad G 9), .ref (gad G 11), .ref (gad G 16), .ref (gad G 18), .int (bi im), .ref (gad G 27), .ref (gad G 29), .int iz]) := by rw [hp44]; exact vu_e (by decide) o1
      have h1_1 : w1 1 = .inr (0, [.ref (gad G 2), .int (nI n)]) := by rw [hp44]; exact vu_e (by decide) h1
      have h2_1 : w1 2 = .inl (gI G, 132, .inl (upd f (a * 11 + 10) (e0))) := by rw [hp44]; exact vu_s
      refine lv_iload_n hx hb dX10_except_47 rfl (lv_at hl 0 rfl) ?_
      exact re_Q hx hb hr hlocks (rfl) hw hS dX10_except_48 (Or.inr ⟨a, ha, rfl, by simp [eOK, c8, c19], rfl, hp44⟩)
    · refine lv_bipush (v := (-2)) hx hb dX10_except_22 (by decide) ?_
      exact re_Q hx hb hr hlocks (rfl) hw hS dX10_except_24 (Or.inl ⟨by simp [eOK, c8, c19], rfl, rfl⟩)
set_option maxHeartbeats 4000000 in
set_option maxRecDepth 100000 in
theorem k_X10_of (l : Launch) {G : GT} {c : Nat → va_E} {im : Bool} {iz : Int32} (o1 : c 0 = .inr (8, [.ref (gad G 1), .ref (gad G 3), .ref (gad G 5), .ref (gad G 8), .ref (gad G 9), .ref (gad G 11), .ref (gad G 16), .ref (gad G 18), .int (bi im), .ref (gad G 27), .ref (gad G 29), .int iz])) {n : Nat} {f : Nat → Int32} (h1 : c 1 = .inr (0, [.ref (gad G 2), .int (nI n)])) (h2 : c 2 = .inl (gI G, 132, .inl f)) (hn : n ≤ 12) {x w : Int32} : Met l yX10_of (wv yX10_of cX10_of 3 (some .int)) ({ frames := 1, cells := 0, slots := 0, locals := 22 } : Room) (va_Pc [.ref (gad G 0), .int x, .int w] (fun U => Hw G c U U.heap)) (vp_Si (fun r => (hasN n x && wn w 0 10) = false ∧ r = -2 ∨ (∃ a q, a < n ∧ q < 11 ∧ x = nI a ∧ w = nI q ∧ r = f (a * 11 + q)))) 0 0 (fun _ => False) := by
  refine en (by decide +kernel) (by first | exact Nat.le_of_ble_eq_true rfl | decide) ?_
  intro p e s m below meth cd ls hx hb hr hml hown hts hlocks hnm hw hl
  have hl : lv_has ls 3 [(0, .ref (gad G 0)), (1, .int x), (2, .int w)] := hl
  refine lv_aload_n hx hb dX10_of_0 rfl (lv_at hl 0 rfl) ?_
  refine w_get (C := RX10) (T := TX10) (N := 12) 0 hx hb hts inX10 hown hw (by decide) o1 rfl (by decide) (hts _ tw_152) rfl dX10_of_1 ?_
  refine lv_iload_n hx hb dX10_of_4 rfl (lv_at hl 1 rfl) ?_
  refine cSe (rV (As := [_]) ⟨hx, hb, hml, hown, hts⟩ hw (k_X1_has l (by decide) (by decide) h1 h2 hn) (cv_X1_has hts tw_205 rfl rfl ⟨Nat.le_of_ble_eq_true rfl, Nat.le_of_ble_eq_true rfl⟩) (by decide) h1 rfl rfl hl.1 rfl (by first | exact Nat.le_of_ble_eq_true rfl | decide) dX10_of_5 ⟨Nat.zero_le _, Nat.zero_le _⟩) ?_
  refine zb_eq (tgt := 21) hx hb dX10_of_8 (by decide) (fun c8 => ?_) (fun c8 => ?_)
  · refine lv_bipush (v := (-2)) hx hb dX10_of_21 (by decide) ?_
    exact re_S hx hb hr hlocks (rfl) dX10_of_23 (Or.inl ⟨by simp [c8], rfl⟩)
  · refine lv_iload_n hx hb dX10_of_11 rfl (lv_at hl 2 rfl) ?_
    refine lv_iconst (v := 0) hx hb dX10_of_12 (by decide) ?_
    refine lv_bipush (v := 10) hx hb dX10_of_13 (by decide) ?_
    refine cSe (rST (As := [_, _, _]) ⟨hx, hb, hml, hown, hts⟩ (k_X10_within l ) (cv_X10_within hts tw_209 rfl rfl ⟨Nat.le_of_ble_eq_true rfl, Nat.le_of_ble_eq_true rfl⟩) rfl hl.1 rfl (by first | exact Nat.le_of_ble_eq_true rfl | decide) dX10_of_15 ⟨Nat.zero_le _, Nat.zero_le _⟩) ?_
    refine zb_ne (tgt := 24) hx hb dX10_of_18 (by decide) (fun c18 => ?_) (fun c18 => ?_)
    · obtain ⟨a, ha, rfl⟩ := hasN_t hn c8
      obtain ⟨q, -, hq, rfl⟩ := wn_nI (a := 0) (b := 10) (by decide) (by decide) c18
      refine lv_aload_n hx hb dX10_of_24 rfl (lv_at hl 0 rfl) ?_
      refine w_get (C := RX10) (T := TX10) (N := 12) 0 hx hb hts inX10 hown hw (by decide) o1 rfl (by decide) (hts _ tw_152) rfl dX10_of_25 ?_
      refine lv_iload_n hx hb dX10_of_28 rfl (lv_at hl 1 rfl) ?_
      refine lv_iload_n hx hb dX10_of_29 rfl (lv_at hl 2 rfl) ?_
      refine cSe (rV (As := [_, _]) ⟨hx, hb, hml, hown, hts⟩ hw (k_X1_at l (by decide) (by decide) h1 h2 hn (ix a q) (by omega)) (cv_X1_at hts tw_215 rfl rfl ⟨Nat.le_of_ble_eq_true rfl, Nat.le_of_ble_eq_true rfl⟩) (by decide) h1 rfl rfl hl.1 rfl (by first | exact Nat.le_of_ble_eq_true rfl | decide) dX10_of_30 ⟨Nat.zero_le _, Nat.zero_le _⟩) ?_
      exact re_S hx hb hr hlocks (rfl) dX10_of_33 (Or.inr ⟨a, q, ha, by omega, rfl, rfl, rfl⟩)
    · refine lv_bipush (v := (-2)) hx hb dX10_of_21 (by decide) ?_
      exact re_S hx hb hr hlocks (rfl) dX10_of_23 (Or.inl ⟨by simp [c8, c18], rfl⟩)
set_option maxHeartbeats 4000000 in
set_option maxRecDepth 100000 in
theorem k_X10_drop (l : Launch) {G : GT} {c : Nat → va_E} {im : Bool} {iz : Int32} (o1 : c 0 = .inr (8, [.ref (gad G 1), .ref (gad G 3), .ref (gad G 5), .ref (gad G 8), .ref (gad G 9), .ref (gad G 11), .ref (gad G 16), .ref (gad G 18), .int (bi im), .ref (gad G 27), .ref (gad G 29), .int iz])) {n : Nat} {f : Nat → Int32} (h1 : c 1 = .inr (0, [.ref (gad G 2), .int (nI n)])) (h2 : c 2 = .inl (gI G, 132, .inl f)) (hn : n ≤ 12)  : Met l yX10_drop (wv yX10_drop cX10_drop 1 (some .int)) ({ frames := 1, cells := 0, slots := 0, locals := 21 } : Room) (va_Pc [.ref (gad G 0)] (fun U => Hw G c U U.heap)) (va_Qi (fun r (c9 : Nat → va_E) => (n = 0 ∧ r = -3 ∧ c9 = c) ∨ (0 < n ∧ r = nI (n - 1) ∧ c9 = va_up c 1 (.inr (0, [.ref (gad G 2), .int (nI (n - 1))])))) (fun c9 t => Hw G c9 t t.heap) (gA G)) 0 0 (gA G) := by
  refine en (by decide +kernel) (by first | exact Nat.le_of_ble_eq_true rfl | decide) ?_
  intro p e s m below meth cd ls hx hb hr hml hown hts hlocks hnm hw hl
  have hl : lv_has ls 1 [(0, .ref (gad G 0))] := hl
  have hX : Sw G s s.heap := hw.2.2.2.2.2
  have hS : va_S (gA G) s.heap s.heap [] := va_S.rf
  obtain ⟨H, hH⟩ : ∃ wz9, wz9 = s.heap := ⟨_, rfl⟩
  obtain ⟨locs, hlocs⟩ : ∃ wz9 : List Loc, wz9 = [] := ⟨_, rfl⟩
  have hw : Hw G c s H := by rw [hH]; exact hw
  have hS : va_S (gA G) s.heap H locs := by rw [hH, hlocs]; exact hS
  suffices hgo : W p l e ({ frames := 1, cells := 0, slots := 0, locals := 21 } : Room) s m (([.ref (gad G 0)] : List Value).toArray) below meth cd H locs 0 0 (MQ below (va_Qi (fun r (c9 : Nat → va_E) => (n = 0 ∧ r = -3 ∧ c9 = c) ∨ (0 < n ∧ r = nI (n - 1) ∧ c9 = va_up c 1 (.inr (0, [.ref (gad G 2), .int (nI (n - 1))])))) (fun c9 t => Hw G c9 t t.heap) (gA G)) ([.ref (gad G 0)] : List Value).toArray s 0 0 (gA G)) (F0 m 0 ls []) by rw [hH, hlocs] at hgo; exact hgo
  refine lv_aload_n hx hb dX10_drop_0 rfl (lv_at hl 0 rfl) ?_
  refine w_get (C := RX10) (T := TX10) (N := 12) 0 hx hb hts inX10 hown hw (by decide) o1 rfl (by decide) (hts _ tw_152) rfl dX10_drop_1 ?_
  refine cSe (rV (As := []) ⟨hx, hb, hml, hown, hts⟩ hw (k_X1_size l (by decide) (by decide) h1 h2 hn) (cv_X1_size hts tw_252 rfl rfl ⟨Nat.le_of_ble_eq_true rfl, Nat.le_of_ble_eq_true rfl⟩) (by decide) h1 rfl rfl hl.1 rfl (by first | exact Nat.le_of_ble_eq_true rfl | decide) dX10_drop_4 ⟨Nat.zero_le _, Nat.zero_le _⟩) ?_
  refine lv_if_ne (tgt := 13) hx hb dX10_drop_7 (by decide) (fun c7 => ?_) (fun c7 => ?_)
  · have hpos : 0 < n := by rcases Nat.eq_zero_or_pos n with z | z; exact absurd (by rw [z]; rfl) c7; exact z
    refine lv_aload_n hx hb dX10_drop_13 rfl (lv_at hl 0 rfl) ?_
    refine w_get (C := RX10) (T := TX10) (N := 12) 0 hx hb hts inX10 hown hw (by decide) o1 rfl (by decide) (hts _ tw_152) rfl dX10_drop_14 ?_
    refine lv_aload_n hx hb dX10_drop_17 rfl (lv_at hl 0 rfl) ?_
    refine w_get (C := RX10) (T := TX10) (N := 12) 0 hx hb hts inX10 hown hw (by decide) o1 rfl (by decide) (hts _ tw_152) rfl dX10_drop_18 ?_
    refine cSe (rV (As := []) ⟨hx, hb, hml, hown, hts⟩ hw (k_X1_size l (by decide) (by decide) h1 h2 hn) (cv_X1_size hts tw_252 rfl rfl ⟨Nat.le_of_ble_eq_true rfl, Nat.le_of_ble_eq_true rfl⟩) (by decide) h1 rfl rfl hl.1 rfl (by first | exact Nat.le_of_ble_eq_true rfl | decide) dX10_drop_21 ⟨Nat.zero_le _, Nat.zero_le _⟩) ?_
    refine lv_iconst (v := 1) hx hb dX10_drop_24 (by decide) ?_
    refine lv_isub hx hb dX10_drop_25 ?_
    refine tp (y := nI (n - 1)) (ixp hpos) ?_
    refine cQv (rV (As := [_]) ⟨hx, hb, hml, hown, hts⟩ hw (k_X1_cutTo l (by decide) (by decide) h1 h2 hn (x := n - 1)) (cv_X1_cutTo hts tw_256 rfl rfl ⟨Nat.le_of_ble_eq_true rfl, Nat.le_of_ble_eq_true rfl⟩) (by decide) h1 rfl rfl hl.1 rfl (by first | exact Nat.le_of_ble_eq_true rfl | decide) dX10_drop_26 ⟨Nat.zero_le _, Nat.zero_le _⟩) hw hS (fun w1 H locs hp26 hw hS => ?_)
    have o1_1 : w1 0 = .inr (8, [.ref (gad G 1), .ref (gad G 3), .ref (gad G 5), .ref (gad G 8), .ref (gad G 9), .ref (gad G 11), .ref (gad G 16), .ref (gad G 18), .int (bi im), .ref (gad G 27), .ref (gad G 29), .int iz]) := by rw [hp26]; exact (vu_e (by first | decide | omega) o1)
    have h1_1 : w1 1 = .inr (0, [.ref (gad G 2), .int (nI (n - 1))]) := by rw [hp26]; exact vu_s
    have h2_1 : w1 2 = .inl (gI G, 132, .inl f) := by rw [hp26]; exact (vu_e (by first | decide | omega) h2)
    refine lv_aload_n hx hb dX10_drop_29 rfl (lv_at hl 0 rfl) ?_
    refine w_get (C := RX10) (T := TX10) (N := 12) 0 hx hb hts inX10 hown hw (by decide) o1_1 rfl (by decide) (hts _ tw_152) rfl dX10_drop_30 ?_
    refine cSe (rV (As := []) ⟨hx, hb, hml, hown, hts⟩ hw (k_X1_size l (by decide) (by decide) h1_1 h2_1 (by omega)) (cv_X1_size hts tw_252 rfl rfl ⟨Nat.le_of_ble_eq_true rfl, Nat.le_of_ble_eq_true rfl⟩) (by decide) h1_1 rfl rfl hl.1 rfl (by first | exact Nat.le_of_ble_eq_true rfl | decide) dX10_drop_33 ⟨Nat.zero_le _, Nat.zero_le _⟩) ?_
    exact re_Q hx hb hr hlocks (rfl) hw hS dX10_drop_36 (Or.inr ⟨hpos, rfl, hp26⟩)
  · have hz0 : n = 0 := (nI_eq (b := 0) (by omega) (by omega)).mp c7
    refine lv_bipush (v := (-3)) hx hb dX10_drop_10 (by decide) ?_
    exact re_Q hx hb hr hlocks (rfl) hw hS dX10_drop_12 (Or.inl ⟨hz0, rfl, rfl⟩)
set_option maxHeartbeats 4000000 in
set_option maxRecDepth 100000 in
theorem k_X10_profile (l : Launch) {G : GT} {c : Nat → va_E} {im : Bool} {iz : Int32} (o1 : c 0 = .inr (8, [.ref (gad G 1), .ref (gad G 3), .ref (gad G 5), .ref (gad G 8), .ref (gad G 9), .ref (gad G 11), .ref (gad G 16), .ref (gad G 18), .int (bi im), .ref (gad G 27), .ref (gad G 29), .int iz])) {a b d q h : Int32} : Met l yX10_profile (wv yX10_profile cX10_profile 7 (some .int)) ({ frames := 1, cells := 0, slots := 0, locals := 24 } : Room) (va_Pc [.ref (gad G 0), .int a, .int b, .int d, .int q, .int h] (fun U => Hw G c U U.heap)) (vp_Si (fun r => r = spProfile a b d q h)) 0 0 (fun _ => False) := by
  refine en (by decide +kernel) (by first | exact Nat.le_of_ble_eq_true rfl | decide) ?_
  intro p e s m below meth cd ls hx hb hr hml hown hts hlocks hnm hw hl
  have hl : lv_has ls 7 [(0, .ref (gad G 0)), (1, .int a), (2, .int b), (3, .int d), (4, .int q), (5, .int h)] := hl
  refine lv_iload_n hx hb dX10_profile_0 rfl (lv_at hl 1 rfl) ?_
  refine lv_iconst (v := 0) hx hb dX10_profile_1 (by decide) ?_
  refine lv_iconst (v := 0) hx hb dX10_profile_2 (by decide) ?_
  refine cSe (rST (As := [_]) ⟨hx, hb, hml, hown, hts⟩ (k_X9_last l ) (cv_X9_last hts tw_264 rfl rfl ⟨Nat.le_of_ble_eq_true rfl, Nat.le_of_ble_eq_true rfl⟩) rfl hl.1 rfl (by first | exact Nat.le_of_ble_eq_true rfl | decide) dX10_profile_3 ⟨Nat.zero_le _, Nat.zero_le _⟩) ?_
  refine tp (y := 99) rfl ?_
  refine cSe (rST (As := [_, _, _]) ⟨hx, hb, hml, hown, hts⟩ (k_X10_within l ) (cv_X10_within hts tw_209 rfl rfl ⟨Nat.le_of_ble_eq_true rfl, Nat.le_of_ble_eq_true rfl⟩) rfl hl.1 rfl (by first | exact Nat.le_of_ble_eq_true rfl | decide) dX10_profile_6 ⟨Nat.zero_le _, Nat.zero_le _⟩) ?_
  refine zb_eq (tgt := 66) hx hb dX10_profile_9 (by decide) (fun c9 => ?_) (fun c9 => ?_)
  · refine lv_iconst (v := 0) hx hb dX10_profile_66 (by decide) ?_
    refine lv_istore (lv' := [(6, _), (0, _), (1, _), (2, _), (3, _), (4, _), (5, _)]) hx hb dX10_profile_67 hl (by decide) rfl (fun ls hl => ?_)
    refine lv_iload hx hb dX10_profile_69 (lv_at hl 0 rfl) ?_
    refine lv_if_eq (tgt := 87) hx hb dX10_profile_71 (by decide) (fun c71 => ?_) (fun q => absurd (rfl) q)
    refine lv_bipush (v := (-2)) hx hb dX10_profile_87 (by decide) ?_
    exact re_S hx hb hr hlocks (rfl) dX10_profile_89 (by simp [spProfile, tlast, c9])
  · refine lv_iload_n hx hb dX10_profile_12 rfl (lv_at hl 2 rfl) ?_
    refine lv_iconst (v := 0) hx hb dX10_profile_13 (by decide) ?_
    refine lv_iconst (v := 1) hx hb dX10_profile_14 (by decide) ?_
    refine cSe (rST (As := [_]) ⟨hx, hb, hml, hown, hts⟩ (k_X9_last l ) (cv_X9_last hts tw_264 rfl rfl ⟨Nat.le_of_ble_eq_true rfl, Nat.le_of_ble_eq_true rfl⟩) rfl hl.1 rfl (by first | exact Nat.le_of_ble_eq_true rfl | decide) dX10_profile_15 ⟨Nat.zero_le _, Nat.zero_le _⟩) ?_
    refine tp (y := 99) rfl ?_
    refine cSe (rST (As := [_, _, _]) ⟨hx, hb, hml, hown, hts⟩ (k_X10_within l ) (cv_X10_within hts tw_209 rfl rfl ⟨Nat.le_of_ble_eq_true rfl, Nat.le_of_ble_eq_true rfl⟩) rfl hl.1 rfl (by first | exact Nat.le_of_ble_eq_true rfl | decide) dX10_profile_18 ⟨Nat.zero_le _, Nat.zero_le _⟩) ?_
    refine zb_eq (tgt := 66) hx hb dX10_profile_21 (by decide) (fun c21 => ?_) (fun c21 => ?_)
    · refine lv_iconst (v := 0) hx hb dX10_profile_66 (by decide) ?_
      refine lv_istore (lv' := [(6, _), (0, _), (1, _), (2, _), (3, _), (4, _), (5, _)]) hx hb dX10_profile_67 hl (by decide) rfl (fun ls hl => ?_)
      refine lv_iload hx hb dX10_profile_69 (lv_at hl 0 rfl) ?_
      refine lv_if_eq (tgt := 87) hx hb dX10_profile_71 (by decide) (fun c71 => ?_) (fun q => absurd (rfl) q)
      refine lv_bipush (v := (-2)) hx hb dX10_profile_87 (by decide) ?_
      exact re_S hx hb hr hlocks (rfl) dX10_profile_89 (by simp [spProfile, tlast, c9, c21])
    · refine lv_iload_n hx hb dX10_profile_24 rfl (lv_at hl 3 rfl) ?_
      refine lv_iconst (v := 0) hx hb dX10_profile_25 (by decide) ?_
      refine lv_iconst (v := 2) hx hb dX10_profile_26 (by decide) ?_
      refine cSe (rST (As := [_]) ⟨hx, hb, hml, hown, hts⟩ (k_X9_last l ) (cv_X9_last hts tw_264 rfl rfl ⟨Nat.le_of_ble_eq_true rfl, Nat.le_of_ble_eq_true rfl⟩) rfl hl.1 rfl (by first | exact Nat.le_of_ble_eq_true rfl | decide) dX10_profile_27 ⟨Nat.zero_le _, Nat.zero_le _⟩) ?_
      refine tp (y := 9) rfl ?_
      refine cSe (rST (As := [_, _, _]) ⟨hx, hb, hml, hown, hts⟩ (k_X10_within l ) (cv_X10_within hts tw_209 rfl rfl ⟨Nat.le_of_ble_eq_true rfl, Nat.le_of_ble_eq_true rfl⟩) rfl hl.1 rfl (by first | exact Nat.le_of_ble_eq_true rfl | decide) dX10_profile_30 ⟨Nat.zero_le _, Nat.zero_le _⟩) ?_
      refine zb_eq (tgt := 66) hx hb dX10_profile_33 (by decide) (fun c33 => ?_) (fun c33 => ?_)
      · refine lv_iconst (v := 0) hx hb dX10_profile_66 (by decide) ?_
        refine lv_istore (lv' := [(6, _), (0, _), (1, _), (2, _), (3, _), (4, _), (5, _)]) hx hb dX10_profile_67 hl (by decide) rfl (fun ls hl => ?_)
        refine lv_iload hx hb dX10_profile_69 (lv_at hl 0 rfl) ?_
        refine lv_if_eq (tgt := 87) hx hb dX10_profile_71 (by decide) (fun c71 => ?_) (fun q => absurd (rfl) q)
        refine lv_bipush (v := (-2)) hx hb dX10_profile_87 (by decide) ?_
        exact re_S hx hb hr hlocks (rfl) dX10_profile_89 (by simp [spProfile, tlast, c9, c21, c33])
      · refine lv_iload hx hb dX10_profile_36 (lv_at hl 4 rfl) ?_
        refine lv_iconst (v := 0) hx hb dX10_profile_38 (by decide) ?_
        refine lv_iconst (v := 3) hx hb dX10_profile_39 (by decide) ?_
        refine cSe (rST (As := [_]) ⟨hx, hb, hml, hown, hts⟩ (k_X9_last l ) (cv_X9_last hts tw_264 rfl rfl ⟨Nat.le_of_ble_eq_true rfl, Nat.le_of_ble_eq_true rfl⟩) rfl hl.1 rfl (by first | exact Nat.le_of_ble_eq_true rfl | decide) dX10_profile_40 ⟨Nat.zero_le _, Nat.zero_le _⟩) ?_
        refine tp (y := 7) rfl ?_
        refine cSe (rST (As := [_, _, _]) ⟨hx, hb, hml, hown, hts⟩ (k_X10_within l ) (cv_X10_within hts tw_209 rfl rfl ⟨Nat.le_of_ble_eq_true rfl, Nat.le_of_ble_eq_true rfl⟩) rfl hl.1 rfl (by first | exact Nat.le_of_ble_eq_true rfl | decide) dX10_profile_43 ⟨Nat.zero_le _, Nat.zero_le _⟩) ?_
        refine zb_eq (tgt := 66) hx hb dX10_profile_46 (by decide) (fun c46 => ?_) (fun c46 => ?_)
        · refine lv_iconst (v := 0) hx hb dX10_profile_66 (by decide) ?_
          refine lv_istore (lv' := [(6, _), (0, _), (1, _), (2, _), (3, _), (4, _), (5, _)]) hx hb dX10_profile_67 hl (by decide) rfl (fun ls hl => ?_)
          refine lv_iload hx hb dX10_profile_69 (lv_at hl 0 rfl) ?_
          refine lv_if_eq (tgt := 87) hx hb dX10_profile_71 (by decide) (fun c71 => ?_) (fun q => absurd (rfl) q)
          refine lv_bipush (v := (-2)) hx hb dX10_profile_87 (by decide) ?_
          exact re_S hx hb hr hlocks (rfl) dX10_profile_89 (by simp [spProfile, tlast, c9, c21, c33, c46])
        · refine lv_iload hx hb dX10_profile_49 (lv_at hl 5 rfl) ?_
          refine lv_iconst (v := 0) hx hb dX10_profile_51 (by decide) ?_
          refine lv_iconst (v := 4) hx hb dX10_profile_52 (by decide) ?_
          refine cSe (rST (As := [_]) ⟨hx, hb, hml, hown, hts⟩ (k_X9_last l ) (cv_X9_last hts tw_264 rfl rfl ⟨Nat.le_of_ble_eq_true rfl, Nat.le_of_ble_eq_true rfl⟩) rfl hl.1 rfl (by first | exact Nat.le_of_ble_eq_true rfl | decide) dX10_profile_53 ⟨Nat.zero_le _, Nat.zero_le _⟩) ?_
          refine tp (y := 31) rfl ?_
          refine cSe (rST (As := [_, _, _]) ⟨hx, hb, hml, hown, hts⟩ (k_X10_within l ) (cv_X10_within hts tw_209 rfl rfl ⟨Nat.le_of_ble_eq_true rfl, Nat.le_of_ble_eq_true rfl⟩) rfl hl.1 rfl (by first | exact Nat.le_of_ble_eq_true rfl | decide) dX10_profile_56 ⟨Nat.zero_le _, Nat.zero_le _⟩) ?_
          refine zb_eq (tgt := 66) hx hb dX10_profile_59 (by decide) (fun c59 => ?_) (fun c59 => ?_)
          · refine lv_iconst (v := 0) hx hb dX10_profile_66 (by decide) ?_
            refine lv_istore (lv' := [(6, _), (0, _), (1, _), (2, _), (3, _), (4, _), (5, _)]) hx hb dX10_profile_67 hl (by decide) rfl (fun ls hl => ?_)
            refine lv_iload hx hb dX10_profile_69 (lv_at hl 0 rfl) ?_
            refine lv_if_eq (tgt := 87) hx hb dX10_profile_71 (by decide) (fun c71 => ?_) (fun q => absurd (rfl) q)
            refine lv_bipush (v := (-2)) hx hb dX10_profile_87 (by decide) ?_
            exact re_S hx hb hr hlocks (rfl) dX10_profile_89 (by simp [spProfile, tlast, c9, c21, c33, c46, c59])
          · skip
            refine lv_iconst (v := 1) hx hb dX10_profile_62 (by decide) ?_
            refine lv_goto (tgt := 67) hx hb dX10_profile_63 (by decide) ?_
            refine lv_istore (lv' := [(6, _), (0, _), (1, _), (2, _), (3, _), (4, _), (5, _)]) hx hb dX10_profile_67 hl (by decide) rfl (fun ls hl => ?_)
            refine lv_iload hx hb dX10_profile_69 (lv_at hl 0 rfl) ?_
            refine lv_if_eq (tgt := 87) hx hb dX10_profile_71 (by decide) (fun q => absurd q (by decide)) (fun c71 => ?_)
            refine lv_iload_n hx hb dX10_profile_74 rfl (lv_at hl 2 rfl) ?_
            refine lv_iload_n hx hb dX10_profile_75 rfl (lv_at hl 3 rfl) ?_
            refine lv_iload_n hx hb dX10_profile_76 rfl (lv_at hl 4 rfl) ?_
            refine lv_iload hx hb dX10_profile_77 (lv_at hl 5 rfl) ?_
            refine lv_iload hx hb dX10_profile_79 (lv_at hl 6 rfl) ?_
            refine cSe (rST (As := [_, _, _, _, _]) ⟨hx, hb, hml, hown, hts⟩ (k_X9_together l ) (cv_X9_together hts tw_267 rfl rfl ⟨Nat.le_of_ble_eq_true rfl, Nat.le_of_ble_eq_true rfl⟩) rfl hl.1 rfl (by first | exact Nat.le_of_ble_eq_true rfl | decide) dX10_profile_81 ⟨Nat.zero_le _, Nat.zero_le _⟩) ?_
            refine lv_goto (tgt := 89) hx hb dX10_profile_84 (by decide) ?_
            exact re_S hx hb hr hlocks (rfl) dX10_profile_89 (by simp [spProfile, tlast, c9, c21, c33, c46, c59])
set_option maxHeartbeats 4000000 in
set_option maxRecDepth 100000 in
theorem k_X10_trait (l : Launch) {G : GT} {c : Nat → va_E} {im : Bool} {iz : Int32} (o1 : c 0 = .inr (8, [.ref (gad G 1), .ref (gad G 3), .ref (gad G 5), .ref (gad G 8), .ref (gad G 9), .ref (gad G 11), .ref (gad G 16), .ref (gad G 18), .int (bi im), .ref (gad G 27), .ref (gad G 29), .int iz])) {a t : Int32} : Met l yX10_trait (wv yX10_trait cX10_trait 3 (some .int)) ({ frames := 2, cells := 0, slots := 0, locals := 42 } : Room) (va_Pc [.ref (gad G 0), .int a, .int t] (fun U => Hw G c U U.heap)) (vp_Si (fun r => r = spTrait a t)) 0 0 (fun _ => False) := by
  refine en (by decide +kernel) (by first | exact Nat.le_of_ble_eq_true rfl | decide) ?_
  intro p e s m below meth cd ls hx hb hr hml hown hts hlocks hnm hw hl
  have hl : lv_has ls 3 [(0, .ref (gad G 0)), (1, .int a), (2, .int t)] := hl
  refine lv_iload_n hx hb dX10_trait_0 rfl (lv_at hl 1 rfl) ?_
  refine cSe (rST (As := [_]) ⟨hx, hb, hml, hown, hts⟩ (k_X10_isProfile l ) (cv_X10_isProfile hts tw_276 rfl rfl ⟨Nat.le_of_ble_eq_true rfl, Nat.le_of_ble_eq_true rfl⟩) rfl hl.1 rfl (by first | exact Nat.le_of_ble_eq_true rfl | decide) dX10_trait_1 ⟨Nat.zero_le _, Nat.zero_le _⟩) ?_
  refine zb_eq (tgt := 16) hx hb dX10_trait_4 (by decide) (fun c4 => ?_) (fun c4 => ?_)
  · refine lv_bipush (v := (-2)) hx hb dX10_trait_16 (by decide) ?_
    exact re_S hx hb hr hlocks (rfl) dX10_trait_18 (by simp [spTrait, c4])
  · refine lv_iload_n hx hb dX10_trait_7 rfl (lv_at hl 2 rfl) ?_
    refine lv_iconst (v := 0) hx hb dX10_trait_8 (by decide) ?_
    refine lv_iconst (v := 4) hx hb dX10_trait_9 (by decide) ?_
    refine cSe (rST (As := [_, _, _]) ⟨hx, hb, hml, hown, hts⟩ (k_X10_within l ) (cv_X10_within hts tw_209 rfl rfl ⟨Nat.le_of_ble_eq_true rfl, Nat.le_of_ble_eq_true rfl⟩) rfl hl.1 rfl (by first | exact Nat.le_of_ble_eq_true rfl | decide) dX10_trait_10 ⟨Nat.zero_le _, Nat.zero_le _⟩) ?_
    refine zb_ne (tgt := 19) hx hb dX10_trait_13 (by decide) (fun c13 => ?_) (fun c13 => ?_)
    · obtain ⟨p0, hp0, rfl⟩ := isP_t c4
      refine lv_iload_n hx hb dX10_trait_19 rfl (lv_at hl 1 rfl) ?_
      refine lv_iload_n hx hb dX10_trait_20 rfl (lv_at hl 2 rfl) ?_
      refine cSe (rST (As := [_, _]) ⟨hx, hb, hml, hown, hts⟩ (k_X9_told l hp0) (cv_X9_told hts tw_280 rfl rfl ⟨Nat.le_of_ble_eq_true rfl, Nat.le_of_ble_eq_true rfl⟩) rfl hl.1 rfl (by first | exact Nat.le_of_ble_eq_true rfl | decide) dX10_trait_21 ⟨Nat.zero_le _, Nat.zero_le _⟩) ?_
      exact re_S hx hb hr hlocks (rfl) dX10_trait_24 (by simp [spTrait, c4, c13, pN_nI hp0])
    · refine lv_bipush (v := (-2)) hx hb dX10_trait_16 (by decide) ?_
      exact re_S hx hb hr hlocks (rfl) dX10_trait_18 (by simp [spTrait, c4, c13])
set_option maxHeartbeats 4000000 in
set_option maxRecDepth 100000 in
theorem k_X10_outcome (l : Launch) {G : GT} {c : Nat → va_E} {im : Bool} {iz : Int32} (o1 : c 0 = .inr (8, [.ref (gad G 1), .ref (gad G 3), .ref (gad G 5), .ref (gad G 8), .ref (gad G 9), .ref (gad G 11), .ref (gad G 16), .ref (gad G 18), .int (bi im), .ref (gad G 27), .ref (gad G 29), .int iz])) {n : Nat} {f : Nat → Int32} (h1 : c 1 = .inr (0, [.ref (gad G 2), .int (nI n)])) (h2 : c 2 = .inl (gI G, 132, .inl f)) (hn : n ≤ 12) {a d : Int32} : Met l yX10_outcome (wv yX10_outcome cX10_outcome 3 (some .int)) ({ frames := 4, cells := 0, slots := 0, locals := 96 } : Room) (va_Pc [.ref (gad G 0), .int a, .int d] (fun U => Hw G c U U.heap)) (vp_Si (fun r => r = spOutcome f n a d)) 0 0 (fun _ => False) := by
  refine en (by decide +kernel) (by first | exact Nat.le_of_ble_eq_true rfl | decide) ?_
  intro p e s m below meth cd ls hx hb hr hml hown hts hlocks hnm hw hl
  have hl : lv_has ls 3 [(0, .ref (gad G 0)), (1, .int a), (2, .int d)] := hl
  refine lv_iload_n hx hb dX10_outcome_0 rfl (lv_at hl 1 rfl) ?_
  refine cSe (rST (As := [_]) ⟨hx, hb, hml, hown, hts⟩ (k_X10_isProfile l ) (cv_X10_isProfile hts tw_276 rfl rfl ⟨Nat.le_of_ble_eq_true rfl, Nat.le_of_ble_eq_true rfl⟩) rfl hl.1 rfl (by first | exact Nat.le_of_ble_eq_true rfl | decide) dX10_outcome_1 ⟨Nat.zero_le _, Nat.zero_le _⟩) ?_
  refine zb_eq (tgt := 14) hx hb dX10_outcome_4 (by decide) (fun c4 => ?_) (fun c4 => ?_)
  · refine lv_bipush (v := (-2)) hx hb dX10_outcome_14 (by decide) ?_
    exact re_S hx hb hr hlocks (rfl) dX10_outcome_16 (by simp [spOutcome, c4])
  · refine lv_iload_n hx hb dX10_outcome_7 rfl (lv_at hl 2 rfl) ?_
    refine cSe (rST (As := [_]) ⟨hx, hb, hml, hown, hts⟩ (k_X10_isDay l ) (cv_X10_isDay hts tw_237 rfl rfl ⟨Nat.le_of_ble_eq_true rfl, Nat.le_of_ble_eq_true rfl⟩) rfl hl.1 rfl (by first | exact Nat.le_of_ble_eq_true rfl | decide) dX10_outcome_8 ⟨Nat.zero_le _, Nat.zero_le _⟩) ?_
    refine zb_ne (tgt := 17) hx hb dX10_outcome_11 (by decide) (fun c11 => ?_) (fun c11 => ?_)
    · obtain ⟨p0, hp0, rfl⟩ := isP_t c4
      refine lv_aload_n hx hb dX10_outcome_17 rfl (lv_at hl 0 rfl) ?_
      refine w_get (C := RX10) (T := TX10) (N := 12) 0 hx hb hts inX10 hown hw (by decide) o1 rfl (by decide) (hts _ tw_152) rfl dX10_outcome_18 ?_
      refine lv_iload_n hx hb dX10_outcome_21 rfl (lv_at hl 1 rfl) ?_
      refine lv_iload_n hx hb dX10_outcome_22 rfl (lv_at hl 2 rfl) ?_
      refine cSe (rV (As := [_, _]) ⟨hx, hb, hml, hown, hts⟩ hw (k_X1_total l (by decide) (by decide) h1 h2 hn hp0) (cv_X1_total hts tw_287 rfl rfl ⟨Nat.le_of_ble_eq_true rfl, Nat.le_of_ble_eq_true rfl⟩) (by decide) h1 rfl rfl hl.1 rfl (by first | exact Nat.le_of_ble_eq_true rfl | decide) dX10_outcome_23 ⟨Nat.zero_le _, Nat.zero_le _⟩) ?_
      exact re_S hx hb hr hlocks (rfl) dX10_outcome_26 (by simp [spOutcome, c4, c11, pN_nI hp0])
    · refine lv_bipush (v := (-2)) hx hb dX10_outcome_14 (by decide) ?_
      exact re_S hx hb hr hlocks (rfl) dX10_outcome_16 (by simp [spOutcome, c4, c11])
set_option maxHeartbeats 4000000 in
set_option maxRecDepth 100000 in
theorem k_X10_reason (l : Launch) {G : GT} {c : Nat → va_E} {im : Bool} {iz : Int32} (o1 : c 0 = .inr (8, [.ref (gad G 1), .ref (gad G 3), .ref (gad G 5), .ref (gad G 8), .ref (gad G 9), .ref (gad G 11), .ref (gad G 16), .ref (gad G 18), .int (bi im), .ref (gad G 27), .ref (gad G 29), .int iz])) {n : Nat} {f : Nat → Int32} (h1 : c 1 = .inr (0, [.ref (gad G 2), .int (nI n)])) (h2 : c 2 = .inl (gI G, 132, .inl f)) (hn : n ≤ 12) {a d : Int32} : Met l yX10_reason (wv yX10_reason cX10_reason 3 (some .int)) ({ frames := 3, cells := 0, slots := 0, locals := 71 } : Room) (va_Pc [.ref (gad G 0), .int a, .int d] (fun U => Hw G c U U.heap)) (vp_Si (fun r => r = spReason f n a d)) 0 0 (fun _ => False) := by
  refine en (by decide +kernel) (by first | exact Nat.le_of_ble_eq_true rfl | decide) ?_
  intro p e s m below meth cd ls hx hb hr hml hown hts hlocks hnm hw hl
  have hl : lv_has ls 3 [(0, .ref (gad G 0)), (1, .int a), (2, .int d)] := hl
  refine lv_iload_n hx hb dX10_reason_0 rfl (lv_at hl 1 rfl) ?_
  refine cSe (rST (As := [_]) ⟨hx, hb, hml, hown, hts⟩ (k_X10_isProfile l ) (cv_X10_isProfile hts tw_276 rfl rfl ⟨Nat.le_of_ble_eq_true rfl, Nat.le_of_ble_eq_true rfl⟩) rfl hl.1 rfl (by first | exact Nat.le_of_ble_eq_true rfl | decide) dX10_reason_1 ⟨Nat.zero_le _, Nat.zero_le _⟩) ?_
  refine zb_eq (tgt := 14) hx hb dX10_reason_4 (by decide) (fun c4 => ?_) (fun c4 => ?_)
  · refine lv_bipush (v := (-2)) hx hb dX10_reason_14 (by decide) ?_
    exact re_S hx hb hr hlocks (rfl) dX10_reason_16 (by simp [spReason, c4])
  · refine lv_iload_n hx hb dX10_reason_7 rfl (lv_at hl 2 rfl) ?_
    refine cSe (rST (As := [_]) ⟨hx, hb, hml, hown, hts⟩ (k_X10_isDay l ) (cv_X10_isDay hts tw_237 rfl rfl ⟨Nat.le_of_ble_eq_true rfl, Nat.le_of_ble_eq_true rfl⟩) rfl hl.1 rfl (by first | exact Nat.le_of_ble_eq_true rfl | decide) dX10_reason_8 ⟨Nat.zero_le _, Nat.zero_le _⟩) ?_
    refine zb_ne (tgt := 17) hx hb dX10_reason_11 (by decide) (fun c11 => ?_) (fun c11 => ?_)
    · obtain ⟨p0, hp0, rfl⟩ := isP_t c4
      refine lv_aload_n hx hb dX10_reason_17 rfl (lv_at hl 0 rfl) ?_
      refine w_get (C := RX10) (T := TX10) (N := 12) 0 hx hb hts inX10 hown hw (by decide) o1 rfl (by decide) (hts _ tw_152) rfl dX10_reason_18 ?_
      refine lv_aload_n hx hb dX10_reason_21 rfl (lv_at hl 0 rfl) ?_
      refine w_get (C := RX10) (T := TX10) (N := 12) 0 hx hb hts inX10 hown hw (by decide) o1 rfl (by decide) (hts _ tw_152) rfl dX10_reason_22 ?_
      refine lv_iload_n hx hb dX10_reason_25 rfl (lv_at hl 1 rfl) ?_
      refine lv_iload_n hx hb dX10_reason_26 rfl (lv_at hl 2 rfl) ?_
      refine cSe (rV (As := [_, _]) ⟨hx, hb, hml, hown, hts⟩ hw (k_X1_holding l (by decide) (by decide) h1 h2 hn hp0) (cv_X1_holding hts tw_334 rfl rfl ⟨Nat.le_of_ble_eq_true rfl, Nat.le_of_ble_eq_true rfl⟩) (by decide) h1 rfl rfl hl.1 rfl (by first | exact Nat.le_of_ble_eq_true rfl | decide) dX10_reason_27 ⟨Nat.zero_le _, Nat.zero_le _⟩) ?_
      have hst := stD_congr (f := f) (n := n) (hp := fun c => isn (mskU (hbf f p0 d) n) (nI c)) (hq := hbf f p0 d) (fun c hc => isn_mskU (by omega) hc) n (Nat.le_refl n)
      refine cSe (rV (As := [_]) ⟨hx, hb, hml, hown, hts⟩ hw (k_X1_counting l (by decide) (by decide) h1 h2 hn) (cv_X1_counting hts tw_335 rfl rfl ⟨Nat.le_of_ble_eq_true rfl, Nat.le_of_ble_eq_true rfl⟩) (by decide) h1 rfl rfl hl.1 rfl (by first | exact Nat.le_of_ble_eq_true rfl | decide) dX10_reason_30 ⟨Nat.zero_le _, Nat.zero_le _⟩) ?_
      exact re_S hx hb hr hlocks (rfl) dX10_reason_33 (by rw [hst]; simp [spReason, c4, c11, pN_nI hp0]; rfl)
    · refine lv_bipush (v := (-2)) hx hb dX10_reason_14 (by decide) ?_
      exact re_S hx hb hr hlocks (rfl) dX10_reason_16 (by simp [spReason, c4, c11])
set_option maxHeartbeats 4000000 in
set_option maxRecDepth 100000 in
theorem k_X10_hold (l : Launch) {G : GT} {c : Nat → va_E} {im : Bool} {iz : Int32} (o1 : c 0 = .inr (8, [.ref (gad G 1), .ref (gad G 3), .ref (gad G 5), .ref (gad G 8), .ref (gad G 9), .ref (gad G 11), .ref (gad G 16), .ref (gad G 18), .int (bi im), .ref (gad G 27), .ref (gad G 29), .int iz])) {n : Nat} {f : Nat → Int32} (h1 : c 1 = .inr (0, [.ref (gad G 2), .int (nI n)])) (h2 : c 2 = .inl (gI G, 132, .inl f)) (hn : n ≤ 12) {a d w : Int32} : Met l yX10_hold (wv yX10_hold cX10_hold 5 (some .int)) ({ frames := 3, cells := 0, slots := 0, locals := 71 } : Room) (va_Pc [.ref (gad G 0), .int a, .int d, .int w] (fun U => Hw G c U U.heap)) (vp_Si (fun r => r = spHold f n a d w)) 0 0 (fun _ => False) := by
  refine en (by decide +kernel) (by first | exact Nat.le_of_ble_eq_true rfl | decide) ?_
  intro p e s m below meth cd ls hx hb hr hml hown hts hlocks hnm hw hl
  have hl : lv_has ls 5 [(0, .ref (gad G 0)), (1, .int a), (2, .int d), (3, .int w)] := hl
  refine lv_iload_n hx hb dX10_hold_0 rfl (lv_at hl 1 rfl) ?_
  refine cSe (rST (As := [_]) ⟨hx, hb, hml, hown, hts⟩ (k_X10_isProfile l ) (cv_X10_isProfile hts tw_276 rfl rfl ⟨Nat.le_of_ble_eq_true rfl, Nat.le_of_ble_eq_true rfl⟩) rfl hl.1 rfl (by first | exact Nat.le_of_ble_eq_true rfl | decide) dX10_hold_1 ⟨Nat.zero_le _, Nat.zero_le _⟩) ?_
  refine zb_eq (tgt := 23) hx hb dX10_hold_4 (by decide) (fun c4 => ?_) (fun c4 => ?_)
  · refine lv_bipush (v := (-2)) hx hb dX10_hold_23 (by decide) ?_
    exact re_S hx hb hr hlocks (rfl) dX10_hold_25 (by simp [spHold, c4])
  · refine lv_iload_n hx hb dX10_hold_7 rfl (lv_at hl 2 rfl) ?_
    refine cSe (rST (As := [_]) ⟨hx, hb, hml, hown, hts⟩ (k_X10_isDay l ) (cv_X10_isDay hts tw_237 rfl rfl ⟨Nat.le_of_ble_eq_true rfl, Nat.le_of_ble_eq_true rfl⟩) rfl hl.1 rfl (by first | exact Nat.le_of_ble_eq_true rfl | decide) dX10_hold_8 ⟨Nat.zero_le _, Nat.zero_le _⟩) ?_
    refine zb_eq (tgt := 23) hx hb dX10_hold_11 (by decide) (fun c11 => ?_) (fun c11 => ?_)
    · refine lv_bipush (v := (-2)) hx hb dX10_hold_23 (by decide) ?_
      exact re_S hx hb hr hlocks (rfl) dX10_hold_25 (by simp [spHold, c4, c11])
    · refine lv_iload_n hx hb dX10_hold_14 rfl (lv_at hl 3 rfl) ?_
      refine lv_iconst (v := 0) hx hb dX10_hold_15 (by decide) ?_
      refine lv_iconst (v := 1) hx hb dX10_hold_16 (by decide) ?_
      refine cSe (rST (As := [_, _, _]) ⟨hx, hb, hml, hown, hts⟩ (k_X10_within l ) (cv_X10_within hts tw_209 rfl rfl ⟨Nat.le_of_ble_eq_true rfl, Nat.le_of_ble_eq_true rfl⟩) rfl hl.1 rfl (by first | exact Nat.le_of_ble_eq_true rfl | decide) dX10_hold_17 ⟨Nat.zero_le _, Nat.zero_le _⟩) ?_
      refine zb_ne (tgt := 26) hx hb dX10_hold_20 (by decide) (fun c20 => ?_) (fun c20 => ?_)
      · obtain ⟨p0, hp0, rfl⟩ := isP_t c4
        refine lv_aload_n hx hb dX10_hold_26 rfl (lv_at hl 0 rfl) ?_
        refine w_get (C := RX10) (T := TX10) (N := 12) 0 hx hb hts inX10 hown hw (by decide) o1 rfl (by decide) (hts _ tw_152) rfl dX10_hold_27 ?_
        refine lv_iload_n hx hb dX10_hold_30 rfl (lv_at hl 1 rfl) ?_
        refine lv_iload_n hx hb dX10_hold_31 rfl (lv_at hl 2 rfl) ?_
        refine cSe (rV (As := [_, _]) ⟨hx, hb, hml, hown, hts⟩ hw (k_X1_holding l (by decide) (by decide) h1 h2 hn hp0) (cv_X1_holding hts tw_334 rfl rfl ⟨Nat.le_of_ble_eq_true rfl, Nat.le_of_ble_eq_true rfl⟩) (by decide) h1 rfl rfl hl.1 rfl (by first | exact Nat.le_of_ble_eq_true rfl | decide) dX10_hold_32 ⟨Nat.zero_le _, Nat.zero_le _⟩) ?_
        refine lv_istore (lv' := [(4, _), (0, _), (1, _), (2, _), (3, _)]) hx hb dX10_hold_35 hl (by decide) rfl (fun ls hl => ?_)
        have hst := stD_congr (f := f) (n := n) (hp := fun c => isn (mskU (hbf f p0 d) n) (nI c)) (hq := hbf f p0 d) (fun c hc => isn_mskU (by omega) hc) n (Nat.le_refl n)
        refine lv_iload_n hx hb dX10_hold_37 rfl (lv_at hl 4 rfl) ?_
        refine lv_if_ne (tgt := 46) hx hb dX10_hold_38 (by decide) (fun c38 => ?_) (fun c38 => ?_)
        · skip
          refine lv_aload_n hx hb dX10_hold_46 rfl (lv_at hl 1 rfl) ?_
          refine w_get (C := RX10) (T := TX10) (N := 12) 0 hx hb hts inX10 hown hw (by decide) o1 rfl (by decide) (hts _ tw_152) rfl dX10_hold_47 ?_
          refine lv_iload hx hb dX10_hold_50 (lv_at hl 0 rfl) ?_
          refine cSe (rV (As := [_]) ⟨hx, hb, hml, hown, hts⟩ hw (k_X1_standing l (by decide) (by decide) h1 h2 hn) (cv_X1_standing hts tw_346 rfl rfl ⟨Nat.le_of_ble_eq_true rfl, Nat.le_of_ble_eq_true rfl⟩) (by decide) h1 rfl rfl hl.1 rfl (by first | exact Nat.le_of_ble_eq_true rfl | decide) dX10_hold_52 ⟨Nat.zero_le _, Nat.zero_le _⟩) ?_
          exact re_S hx hb hr hlocks (rfl) dX10_hold_55 (by rw [hst]; simp [spHold, c4, c11, c20, c38, pN_nI hp0, hdM, stM])
        · refine lv_iload hx hb dX10_hold_41 (lv_at hl 0 rfl) ?_
          refine lv_goto (tgt := 55) hx hb dX10_hold_43 (by decide) ?_
          exact re_S hx hb hr hlocks (rfl) dX10_hold_55 (by simp [spHold, c4, c11, c20, if_pos c38, pN_nI hp0, hdM, stM])
      · refine lv_bipush (v := (-2)) hx hb dX10_hold_23 (by decide) ?_
        exact re_S hx hb hr hlocks (rfl) dX10_hold_25 (by simp [spHold, c4, c11, c20])
set_option maxHeartbeats 4000000 in
set_option maxRecDepth 100000 in
theorem k_X10_why (l : Launch) {G : GT} {c : Nat → va_E} {im : Bool} {iz : Int32} (o1 : c 0 = .inr (8, [.ref (gad G 1), .ref (gad G 3), .ref (gad G 5), .ref (gad G 8), .ref (gad G 9), .ref (gad G 11), .ref (gad G 16), .ref (gad G 18), .int (bi im), .ref (gad G 27), .ref (gad G 29), .int iz])) {n : Nat} {f : Nat → Int32} (h1 : c 1 = .inr (0, [.ref (gad G 2), .int (nI n)])) (h2 : c 2 = .inl (gI G, 132, .inl f)) (hn : n ≤ 12) {a d x w : Int32} : Met l yX10_why (wv yX10_why cX10_why 6 (some .int)) ({ frames := 4, cells := 0, slots := 0, locals := 94 } : Room) (va_Pc [.ref (gad G 0), .int a, .int d, .int x, .int w] (fun U => Hw G c U U.heap)) (vp_Si (fun r => r = spWhy f n a d x w)) 0 0 (fun _ => False) := by
  refine en (by decide +kernel) (by first | exact Nat.le_of_ble_eq_true rfl | decide) ?_
  intro p e s m below meth cd ls hx hb hr hml hown hts hlocks hnm hw hl
  have hl : lv_has ls 6 [(0, .ref (gad G 0)), (1, .int a), (2, .int d), (3, .int x), (4, .int w)] := hl
  refine lv_iload_n hx hb dX10_why_0 rfl (lv_at hl 1 rfl) ?_
  refine cSe (rST (As := [_]) ⟨hx, hb, hml, hown, hts⟩ (k_X10_isProfile l ) (cv_X10_isProfile hts tw_276 rfl rfl ⟨Nat.le_of_ble_eq_true rfl, Nat.le_of_ble_eq_true rfl⟩) rfl hl.1 rfl (by first | exact Nat.le_of_ble_eq_true rfl | decide) dX10_why_1 ⟨Nat.zero_le _, Nat.zero_le _⟩) ?_
  refine zb_eq (tgt := 25) hx hb dX10_why_4 (by decide) (fun c4 => ?_) (fun c4 => ?_)
  · refine lv_bipush (v := (-2)) hx hb dX10_why_25 (by decide) ?_
    exact re_S hx hb hr hlocks (rfl) dX10_why_27 (by simp [spWhy, c4])
  · refine lv_iload_n hx hb dX10_why_7 rfl (lv_at hl 2 rfl) ?_
    refine cSe (rST (As := [_]) ⟨hx, hb, hml, hown, hts⟩ (k_X10_isDay l ) (cv_X10_isDay hts tw_237 rfl rfl ⟨Nat.le_of_ble_eq_true rfl, Nat.le_of_ble_eq_true rfl⟩) rfl hl.1 rfl (by first | exact Nat.le_of_ble_eq_true rfl | decide) dX10_why_8 ⟨Nat.zero_le _, Nat.zero_le _⟩) ?_
    refine zb_eq (tgt := 25) hx hb dX10_why_11 (by decide) (fun c11 => ?_) (fun c11 => ?_)
    · refine lv_bipush (v := (-2)) hx hb dX10_why_25 (by decide) ?_
      exact re_S hx hb hr hlocks (rfl) dX10_why_27 (by simp [spWhy, c4, c11])
    · refine lv_aload_n hx hb dX10_why_14 rfl (lv_at hl 0 rfl) ?_
      refine w_get (C := RX10) (T := TX10) (N := 12) 0 hx hb hts inX10 hown hw (by decide) o1 rfl (by decide) (hts _ tw_152) rfl dX10_why_15 ?_
      refine lv_iload_n hx hb dX10_why_18 rfl (lv_at hl 3 rfl) ?_
      refine cSe (rV (As := [_]) ⟨hx, hb, hml, hown, hts⟩ hw (k_X1_has l (by decide) (by decide) h1 h2 hn) (cv_X1_has hts tw_205 rfl rfl ⟨Nat.le_of_ble_eq_true rfl, Nat.le_of_ble_eq_true rfl⟩) (by decide) h1 rfl rfl hl.1 rfl (by first | exact Nat.le_of_ble_eq_true rfl | decide) dX10_why_19 ⟨Nat.zero_le _, Nat.zero_le _⟩) ?_
      refine zb_ne (tgt := 28) hx hb dX10_why_22 (by decide) (fun c22 => ?_) (fun c22 => ?_)
      · obtain ⟨p0, hp0, rfl⟩ := isP_t c4
        obtain ⟨q, hq, rfl⟩ := hasN_t hn c22
        refine lv_aload_n hx hb dX10_why_28 rfl (lv_at hl 0 rfl) ?_
        refine w_get (C := RX10) (T := TX10) (N := 12) 0 hx hb hts inX10 hown hw (by decide) o1 rfl (by decide) (hts _ tw_152) rfl dX10_why_29 ?_
        refine lv_iload_n hx hb dX10_why_32 rfl (lv_at hl 1 rfl) ?_
        refine lv_iload_n hx hb dX10_why_33 rfl (lv_at hl 2 rfl) ?_
        refine cSe (rV (As := [_, _]) ⟨hx, hb, hml, hown, hts⟩ hw (k_X1_holding l (by decide) (by decide) h1 h2 hn hp0) (cv_X1_holding hts tw_334 rfl rfl ⟨Nat.le_of_ble_eq_true rfl, Nat.le_of_ble_eq_true rfl⟩) (by decide) h1 rfl rfl hl.1 rfl (by first | exact Nat.le_of_ble_eq_true rfl | decide) dX10_why_34 ⟨Nat.zero_le _, Nat.zero_le _⟩) ?_
        refine lv_istore (lv' := [(5, _), (0, _), (1, _), (2, _), (3, _), (4, _)]) hx hb dX10_why_37 hl (by decide) rfl (fun ls hl => ?_)
        have hst := stD_congr (f := f) (n := n) (hp := fun c => isn (mskU (hbf f p0 d) n) (nI c)) (hq := hbf f p0 d) (fun c hc => isn_mskU (by omega) hc) n (Nat.le_refl n)
        have hq9 : (nI q).toNatClampNeg = q := nI_clamp (by omega)
        have hb9 := isn_mskU (P := hbf f p0 d) (n := n) (c := q) (by omega) hq
        have hc9 := isn_mskU (P := cnb f (mskU (hbf f p0 d) n) (stD f (hbf f p0 d) n n).1) (n := n) (c := q) (by omega) hq
        refine lv_iload hx hb dX10_why_39 (lv_at hl 5 rfl) ?_
        by_cases hs41 : w.toInt < 0 ∨ 2 < w.toInt
        · refine lv_tableOut (tgt := 128) hx hb dX10_why_41 hs41 (by decide) ?_
          refine lv_bipush (v := (-2)) hx hb dX10_why_128 (by decide) ?_
          exact re_S hx hb hr hlocks (rfl) dX10_why_130 (by obtain ⟨y0, y1, y2⟩ := sw2 hs41; simp [spWhy, c4, c11, c22, y0, y1, y2])
        · have hz41 : w.toInt = 0 ∨ w.toInt = 1 ∨ w.toInt = 2 := by omega
          rcases hz41 with hz41 | hz41 | hz41
          · refine lv_tableIn (off := 27) (tgt := 68) hx hb dX10_why_41 (by omega) (by omega) (by rw [hz41]; rfl) (by decide) ?_
            have hz41 : w = 0 := Int32.toInt_inj.mp (hz41.trans rfl)
            refine lv_aload_n hx hb dX10_why_68 rfl (lv_at hl 1 rfl) ?_
            refine w_get (C := RX10) (T := TX10) (N := 12) 0 hx hb hts inX10 hown hw (by decide) o1 rfl (by decide) (hts _ tw_152) rfl dX10_why_69 ?_
            refine lv_iload hx hb dX10_why_72 (lv_at hl 0 rfl) ?_
            refine cSe (rV (As := [_]) ⟨hx, hb, hml, hown, hts⟩ hw (k_X1_counting l (by decide) (by decide) h1 h2 hn) (cv_X1_counting hts tw_335 rfl rfl ⟨Nat.le_of_ble_eq_true rfl, Nat.le_of_ble_eq_true rfl⟩) (by decide) h1 rfl rfl hl.1 rfl (by first | exact Nat.le_of_ble_eq_true rfl | decide) dX10_why_74 ⟨Nat.zero_le _, Nat.zero_le _⟩) ?_
            refine lv_iload_n hx hb dX10_why_77 rfl (lv_at hl 4 rfl) ?_
            refine cSe (rST (As := [_, _]) ⟨hx, hb, hml, hown, hts⟩ (k_X1_isIn l ) (cv_X1_isIn hts tw_340 rfl rfl ⟨Nat.le_of_ble_eq_true rfl, Nat.le_of_ble_eq_true rfl⟩) rfl hl.1 rfl (by first | exact Nat.le_of_ble_eq_true rfl | decide) dX10_why_78 ⟨Nat.zero_le _, Nat.zero_le _⟩) ?_
            refine zb_eq (tgt := 96) hx hb dX10_why_81 (by decide) (fun c81 => ?_) (fun c81 => ?_)
            · refine lv_iconst (v := 0) hx hb dX10_why_96 (by decide) ?_
              exact re_S hx hb hr hlocks (rfl) dX10_why_97 (by rw [hst, hc9] at c81; simp [spWhy, c4, c11, c22, hz41, pN_nI hp0, hq9, cnM, hdM, stM, c81])
            · refine lv_aload_n hx hb dX10_why_84 rfl (lv_at hl 1 rfl) ?_
              refine w_get (C := RX10) (T := TX10) (N := 12) 0 hx hb hts inX10 hown hw (by decide) o1 rfl (by decide) (hts _ tw_152) rfl dX10_why_85 ?_
              refine lv_iload_n hx hb dX10_why_88 rfl (lv_at hl 4 rfl) ?_
              refine lv_iload_n hx hb dX10_why_89 rfl (lv_at hl 2 rfl) ?_
              refine cSe (rV (As := [_, _]) ⟨hx, hb, hml, hown, hts⟩ hw (k_X1_worth l (by decide) (by decide) h1 h2 hn hq hp0) (cv_X1_worth hts tw_341 rfl rfl ⟨Nat.le_of_ble_eq_true rfl, Nat.le_of_ble_eq_true rfl⟩) (by decide) h1 rfl rfl hl.1 rfl (by first | exact Nat.le_of_ble_eq_true rfl | decide) dX10_why_90 ⟨Nat.zero_le _, Nat.zero_le _⟩) ?_
              refine lv_goto (tgt := 97) hx hb dX10_why_93 (by decide) ?_
              exact re_S hx hb hr hlocks (rfl) dX10_why_97 (by rw [hst, hc9] at c81; simp [spWhy, c4, c11, c22, hz41, pN_nI hp0, hq9, cnM, hdM, stM, c81])
          · refine lv_tableIn (off := 57) (tgt := 98) hx hb dX10_why_41 (by omega) (by omega) (by rw [hz41]; rfl) (by decide) ?_
            have hz41 : w = 1 := Int32.toInt_inj.mp (hz41.trans rfl)
            refine lv_aload_n hx hb dX10_why_98 rfl (lv_at hl 1 rfl) ?_
            refine w_get (C := RX10) (T := TX10) (N := 12) 0 hx hb hts inX10 hown hw (by decide) o1 rfl (by decide) (hts _ tw_152) rfl dX10_why_99 ?_
            refine lv_iload_n hx hb dX10_why_102 rfl (lv_at hl 4 rfl) ?_
            refine lv_iload_n hx hb dX10_why_103 rfl (lv_at hl 3 rfl) ?_
            refine lv_iload hx hb dX10_why_104 (lv_at hl 0 rfl) ?_
            refine cSe (rV (As := [_, _, _]) ⟨hx, hb, hml, hown, hts⟩ hw (k_X1_whyNot l (by decide) (by decide) h1 h2 hn hq) (cv_X1_whyNot hts tw_342 rfl rfl ⟨Nat.le_of_ble_eq_true rfl, Nat.le_of_ble_eq_true rfl⟩) (by decide) h1 rfl rfl hl.1 rfl (by first | exact Nat.le_of_ble_eq_true rfl | decide) dX10_why_106 ⟨Nat.zero_le _, Nat.zero_le _⟩) ?_
            exact re_S hx hb hr hlocks (rfl) dX10_why_109 (by rw [hst, hc9, hb9]; simp [spWhy, c4, c11, c22, hz41, pN_nI hp0, hq9, cnM, hdM, stM])
          · refine lv_tableIn (off := 69) (tgt := 110) hx hb dX10_why_41 (by omega) (by omega) (by rw [hz41]; rfl) (by decide) ?_
            have hz41 : w = 2 := Int32.toInt_inj.mp (hz41.trans rfl)
            refine lv_aload_n hx hb dX10_why_110 rfl (lv_at hl 1 rfl) ?_
            refine w_get (C := RX10) (T := TX10) (N := 12) 0 hx hb hts inX10 hown hw (by decide) o1 rfl (by decide) (hts _ tw_152) rfl dX10_why_111 ?_
            refine lv_iload_n hx hb dX10_why_114 rfl (lv_at hl 4 rfl) ?_
            refine lv_aload_n hx hb dX10_why_115 rfl (lv_at hl 1 rfl) ?_
            refine w_get (C := RX10) (T := TX10) (N := 12) 0 hx hb hts inX10 hown hw (by decide) o1 rfl (by decide) (hts _ tw_152) rfl dX10_why_116 ?_
            refine lv_iload hx hb dX10_why_119 (lv_at hl 0 rfl) ?_
            refine cSe (rV (As := [_]) ⟨hx, hb, hml, hown, hts⟩ hw (k_X1_standing l (by decide) (by decide) h1 h2 hn) (cv_X1_standing hts tw_346 rfl rfl ⟨Nat.le_of_ble_eq_true rfl, Nat.le_of_ble_eq_true rfl⟩) (by decide) h1 rfl rfl hl.1 rfl (by first | exact Nat.le_of_ble_eq_true rfl | decide) dX10_why_121 ⟨Nat.zero_le _, Nat.zero_le _⟩) ?_
            refine cSe (rV (As := [_, _]) ⟨hx, hb, hml, hown, hts⟩ hw (k_X1_leastException l (by decide) (by decide) h1 h2 hn hq) (cv_X1_leastException hts tw_347 rfl rfl ⟨Nat.le_of_ble_eq_true rfl, Nat.le_of_ble_eq_true rfl⟩) (by decide) h1 rfl rfl hl.1 rfl (by first | exact Nat.le_of_ble_eq_true rfl | decide) dX10_why_124 ⟨Nat.zero_le _, Nat.zero_le _⟩) ?_
            exact re_S hx hb hr hlocks (rfl) dX10_why_127 (by rw [hst]; simp [spWhy, c4, c11, c22, hz41, pN_nI hp0, hq9, stM])
      · refine lv_bipush (v := (-2)) hx hb dX10_why_25 (by decide) ?_
        exact re_S hx hb hr hlocks (rfl) dX10_why_27 (by simp [spWhy, c4, c11, c22])
set_option maxHeartbeats 4000000 in
set_option maxRecDepth 100000 in
theorem k_X10_best (l : Launch) {G : GT} {c : Nat → va_E} {im : Bool} {iz : Int32} (o1 : c 0 = .inr (8, [.ref (gad G 1), .ref (gad G 3), .ref (gad G 5), .ref (gad G 8), .ref (gad G 9), .ref (gad G 11), .ref (gad G 16), .ref (gad G 18), .int (bi im), .ref (gad G 27), .ref (gad G 29), .int iz])) {n : Nat} {f : Nat → Int32} (h1 : c 1 = .inr (0, [.ref (gad G 2), .int (nI n)])) (h2 : c 2 = .inl (gI G, 132, .inl f)) (hn : n ≤ 12) {m0 : Nat} {g : Nat → Int32} (l1 : c 16 = .inr (2, [.ref (gad G 17), .int (nI m0)])) (l2 : c 17 = .inl (gI G, 100, .inl g)) (hm : m0 ≤ 100) {a d t w : Int32} : Met l yX10_best (wv yX10_best cX10_best 6 (some .int)) ({ frames := 5, cells := 0, slots := 0, locals := 121 } : Room) (va_Pc [.ref (gad G 0), .int a, .int d, .int t, .int w] (fun U => Hw G c U U.heap)) (va_Qi (fun r (c9 : Nat → va_E) => r = spBest f n a d t w ∧ lnE G c c9) (fun c9 t => Hw G c9 t t.heap) (gA G)) 0 0 (gA G) := by
  refine en (by decide +kernel) (by first | exact Nat.le_of_ble_eq_true rfl | decide) ?_
  intro p e s m below meth cd ls hx hb hr hml hown hts hlocks hnm hw hl
  have hl : lv_has ls 6 [(0, .ref (gad G 0)), (1, .int a), (2, .int d), (3, .int t), (4, .int w)] := hl
  have hX : Sw G s s.heap := hw.2.2.2.2.2
  have hS : va_S (gA G) s.heap s.heap [] := va_S.rf
  obtain ⟨H, hH⟩ : ∃ wz9, wz9 = s.heap := ⟨_, rfl⟩
  obtain ⟨locs, hlocs⟩ : ∃ wz9 : List Loc, wz9 = [] := ⟨_, rfl⟩
  have hw : Hw G c s H := by rw [hH]; exact hw
  have hS : va_S (gA G) s.heap H locs := by rw [hH, hlocs]; exact hS
  suffices hgo : W p l e ({ frames := 5, cells := 0, slots := 0, locals := 121 } : Room) s m (([.ref (gad G 0), .int a, .int d, .int t, .int w] : List Value).toArray) below meth cd H locs 0 0 (MQ below (va_Qi (fun r (c9 : Nat → va_E) => r = spBest f n a d t w ∧ lnE G c c9) (fun c9 t => Hw G c9 t t.heap) (gA G)) ([.ref (gad G 0), .int a, .int d, .int t, .int w] : List Value).toArray s 0 0 (gA G)) (F0 m 0 ls []) by rw [hH, hlocs] at hgo; exact hgo
  refine lv_iload_n hx hb dX10_best_0 rfl (lv_at hl 1 rfl) ?_
  refine lv_iload_n hx hb dX10_best_1 rfl (lv_at hl 2 rfl) ?_
  refine lv_iload_n hx hb dX10_best_2 rfl (lv_at hl 3 rfl) ?_
  refine cSe (rST (As := [_, _, _]) ⟨hx, hb, hml, hown, hts⟩ (k_X10_isAlong l ) (cv_X10_isAlong hts tw_359 rfl rfl ⟨Nat.le_of_ble_eq_true rfl, Nat.le_of_ble_eq_true rfl⟩) rfl hl.1 rfl (by first | exact Nat.le_of_ble_eq_true rfl | decide) dX10_best_3 ⟨Nat.zero_le _, Nat.zero_le _⟩) ?_
  refine zb_eq (tgt := 19) hx hb dX10_best_6 (by decide) (fun c6 => ?_) (fun c6 => ?_)
  · refine lv_bipush (v := (-2)) hx hb dX10_best_19 (by decide) ?_
    exact re_Q hx hb hr hlocks (rfl) hw hS dX10_best_21 (⟨by simp [spBest, c6], lnE_id l1 l2 hm⟩)
  · refine lv_iload hx hb dX10_best_9 (lv_at hl 4 rfl) ?_
    refine lv_iconst (v := 0) hx hb dX10_best_11 (by decide) ?_
    refine lv_iconst (v := 1) hx hb dX10_best_12 (by decide) ?_
    refine cSe (rST (As := [_, _, _]) ⟨hx, hb, hml, hown, hts⟩ (k_X10_within l ) (cv_X10_within hts tw_209 rfl rfl ⟨Nat.le_of_ble_eq_true rfl, Nat.le_of_ble_eq_true rfl⟩) rfl hl.1 rfl (by first | exact Nat.le_of_ble_eq_true rfl | decide) dX10_best_13 ⟨Nat.zero_le _, Nat.zero_le _⟩) ?_
    refine zb_ne (tgt := 22) hx hb dX10_best_16 (by decide) (fun c16 => ?_) (fun c16 => ?_)
    · have hal := c6
      simp only [Bool.and_eq_true] at hal
      obtain ⟨⟨ha1, ha2⟩, ha3⟩ := hal
      obtain ⟨p0, hp0, rfl⟩ := isP_t ha1
      have ht := isSh_t ha3
      have hsz := sz_le ht
      refine lv_aload_n hx hb dX10_best_22 rfl (lv_at hl 0 rfl) ?_
      refine w_get (C := RX10) (T := TX10) (N := 12) 6 hx hb hts inX10 hown hw (by decide) o1 rfl (by decide) (hts _ tw_158) rfl dX10_best_23 ?_
      refine lv_aload_n hx hb dX10_best_26 rfl (lv_at hl 0 rfl) ?_
      refine w_get (C := RX10) (T := TX10) (N := 12) 0 hx hb hts inX10 hown hw (by decide) o1 rfl (by decide) (hts _ tw_152) rfl dX10_best_27 ?_
      refine lv_iload_n hx hb dX10_best_30 rfl (lv_at hl 1 rfl) ?_
      refine lv_iload_n hx hb dX10_best_31 rfl (lv_at hl 2 rfl) ?_
      refine lv_iload_n hx hb dX10_best_32 rfl (lv_at hl 3 rfl) ?_
      refine cQv (rV (As := [_, _, _, _]) ⟨hx, hb, hml, hown, hts⟩ hw (k_X3_follow l l1 l2 hm h1 h2 hn hp0 ht) (cv_X3_follow hts tw_362 rfl rfl ⟨Nat.le_of_ble_eq_true rfl, Nat.le_of_ble_eq_true rfl⟩) (by decide) l1 rfl rfl hl.1 rfl (by first | exact Nat.le_of_ble_eq_true rfl | decide) dX10_best_33 ⟨Nat.zero_le _, Nat.zero_le _⟩) hw hS (fun w1 H locs hp33 hw hS => ?_)
      have o1_1 : w1 0 = .inr (8, [.ref (gad G 1), .ref (gad G 3), .ref (gad G 5), .ref (gad G 8), .ref (gad G 9), .ref (gad G 11), .ref (gad G 16), .ref (gad G 18), .int (bi im), .ref (gad G 27), .ref (gad G 29), .int iz]) := by rw [hp33]; exact (vu_e (by first | decide | omega) (vu_e (by first | decide | omega) o1))
      have h1_1 : w1 1 = .inr (0, [.ref (gad G 2), .int (nI n)]) := by rw [hp33]; exact (vu_e (by first | decide | omega) (vu_e (by first | decide | omega) h1))
      have h2_1 : w1 2 = .inl (gI G, 132, .inl f) := by rw [hp33]; exact (vu_e (by first | decide | omega) (vu_e (by first | decide | omega) h2))
      have l1_1 : w1 16 = .inr (2, [.ref (gad G 17), .int (nI (szN t))]) := by rw [hp33]; exact vu_e (by decide) vu_s
      have l2_1 : w1 17 = .inl (gI G, 100, .inl (flF f n p0 d t g (szN t))) := by rw [hp33]; exact vu_s
      refine lv_aload_n hx hb dX10_best_36 rfl (lv_at hl 0 rfl) ?_
      refine w_get (C := RX10) (T := TX10) (N := 12) 6 hx hb hts inX10 hown hw (by decide) o1_1 rfl (by decide) (hts _ tw_158) rfl dX10_best_37 ?_
      refine cSe (rV (As := []) ⟨hx, hb, hml, hown, hts⟩ hw (k_X3_leastOfMost l l1_1 l2_1 hsz.1 hsz.2) (cv_X3_leastOfMost hts tw_375 rfl rfl ⟨Nat.le_of_ble_eq_true rfl, Nat.le_of_ble_eq_true rfl⟩) (by decide) l1_1 rfl rfl hl.1 rfl (by first | exact Nat.le_of_ble_eq_true rfl | decide) dX10_best_40 ⟨Nat.zero_le _, Nat.zero_le _⟩) ?_
      refine lv_istore (lv' := [(5, _), (0, _), (1, _), (2, _), (3, _), (4, _)]) hx hb dX10_best_43 hl (by decide) rfl (fun ls hl => ?_)
      refine lv_iload hx hb dX10_best_45 (lv_at hl 5 rfl) ?_
      refine lv_if_ne (tgt := 55) hx hb dX10_best_47 (by decide) (fun c47 => ?_) (fun c47 => ?_)
      · skip
        refine lv_aload_n hx hb dX10_best_55 rfl (lv_at hl 1 rfl) ?_
        refine w_get (C := RX10) (T := TX10) (N := 12) 6 hx hb hts inX10 hown hw (by decide) o1_1 rfl (by decide) (hts _ tw_158) rfl dX10_best_56 ?_
        refine lv_iload hx hb dX10_best_59 (lv_at hl 0 rfl) ?_
        refine cSe (rV (As := [_]) ⟨hx, hb, hml, hown, hts⟩ hw (k_X3_at l l1_1 l2_1 hsz.1 (by have := lmo_lt (flF f n p0 d t g (szN t)) (szN t) hsz.2; omega)) (cv_X3_at hts tw_379 rfl rfl ⟨Nat.le_of_ble_eq_true rfl, Nat.le_of_ble_eq_true rfl⟩) (by decide) l1_1 rfl rfl hl.1 rfl (by first | exact Nat.le_of_ble_eq_true rfl | decide) dX10_best_61 ⟨Nat.zero_le _, Nat.zero_le _⟩) ?_
        exact re_Q hx hb hr hlocks (rfl) hw hS dX10_best_64 (⟨by rw [lmo_congr (flF_og (f := f) (n := n) (p := p0) (d := d) (t := t) (g := g) (m := szN t)) (szN t) (Nat.le_refl _), flF_og _ (lmo_lt _ _ hsz.2)]; simp [spBest, ha1, ha2, ha3, c16, c47, pN_nI hp0], szN t, _, hsz.1, hp33⟩)
      · refine lv_iload hx hb dX10_best_50 (lv_at hl 0 rfl) ?_
        refine lv_goto (tgt := 64) hx hb dX10_best_52 (by decide) ?_
        exact re_Q hx hb hr hlocks (rfl) hw hS dX10_best_64 (⟨by rw [lmo_congr (flF_og (f := f) (n := n) (p := p0) (d := d) (t := t) (g := g) (m := szN t)) (szN t) (Nat.le_refl _)]; simp [spBest, ha1, ha2, ha3, c16, if_pos c47, pN_nI hp0], szN t, _, hsz.1, hp33⟩)
    · refine lv_bipush (v := (-2)) hx hb dX10_best_19 (by decide) ?_
      exact re_Q hx hb hr hlocks (rfl) hw hS dX10_best_21 (⟨by simp [spBest, c6, c16], lnE_id l1 l2 hm⟩)
set_option maxHeartbeats 4000000 in
set_option maxRecDepth 100000 in
theorem k_X10_jumps (l : Launch) {G : GT} {c : Nat → va_E} {im : Bool} {iz : Int32} (o1 : c 0 = .inr (8, [.ref (gad G 1), .ref (gad G 3), .ref (gad G 5), .ref (gad G 8), .ref (gad G 9), .ref (gad G 11), .ref (gad G 16), .ref (gad G 18), .int (bi im), .ref (gad G 27), .ref (gad G 29), .int iz])) {n : Nat} {f : Nat → Int32} (h1 : c 1 = .inr (0, [.ref (gad G 2), .int (nI n)])) (h2 : c 2 = .inl (gI G, 132, .inl f)) (hn : n ≤ 12) {m0 : Nat} {g : Nat → Int32} (l1 : c 16 = .inr (2, [.ref (gad G 17), .int (nI m0)])) (l2 : c 17 = .inl (gI G, 100, .inl g)) (hm : m0 ≤ 100) {a d t w : Int32} : Met l yX10_jumps (wv yX10_jumps cX10_jumps 5 (some .int)) ({ frames := 5, cells := 0, slots := 0, locals := 121 } : Room) (va_Pc [.ref (gad G 0), .int a, .int d, .int t, .int w] (fun U => Hw G c U U.heap)) (va_Qi (fun r (c9 : Nat → va_E) => r = spJumps f n a d t w ∧ lnE G c c9) (fun c9 t => Hw G c9 t t.heap) (gA G)) 0 0 (gA G) := by
  refine en (by decide +kernel) (by first | exact Nat.le_of_ble_eq_true rfl | decide) ?_
  intro p e s m below meth cd ls hx hb hr hml hown hts hlocks hnm hw hl
  have hl : lv_has ls 5 [(0, .ref (gad G 0)), (1, .int a), (2, .int d), (3, .int t), (4, .int w)] := hl
  have hX : Sw G s s.heap := hw.2.2.2.2.2
  have hS : va_S (gA G) s.heap s.heap [] := va_S.rf
  obtain ⟨H, hH⟩ : ∃ wz9, wz9 = s.heap := ⟨_, rfl⟩
  obtain ⟨locs, hlocs⟩ : ∃ wz9 : List Loc, wz9 = [] := ⟨_, rfl⟩
  have hw : Hw G c s H := by rw [hH]; exact hw
  have hS : va_S (gA G) s.heap H locs := by rw [hH, hlocs]; exact hS
  suffices hgo : W p l e ({ frames := 5, cells := 0, slots := 0, locals := 121 } : Room) s m (([.ref (gad G 0), .int a, .int d, .int t, .int w] : List Value).toArray) below meth cd H locs 0 0 (MQ below (va_Qi (fun r (c9 : Nat → va_E) => r = spJumps f n a d t w ∧ lnE G c c9) (fun c9 t => Hw G c9 t t.heap) (gA G)) ([.ref (gad G 0), .int a, .int d, .int t, .int w] : List Value).toArray s 0 0 (gA G)) (F0 m 0 ls []) by rw [hH, hlocs] at hgo; exact hgo
  refine lv_iload_n hx hb dX10_jumps_0 rfl (lv_at hl 1 rfl) ?_
  refine lv_iload_n hx hb dX10_jumps_1 rfl (lv_at hl 2 rfl) ?_
  refine lv_iload_n hx hb dX10_jumps_2 rfl (lv_at hl 3 rfl) ?_
  refine cSe (rST (As := [_, _, _]) ⟨hx, hb, hml, hown, hts⟩ (k_X10_isAlong l ) (cv_X10_isAlong hts tw_359 rfl rfl ⟨Nat.le_of_ble_eq_true rfl, Nat.le_of_ble_eq_true rfl⟩) rfl hl.1 rfl (by first | exact Nat.le_of_ble_eq_true rfl | decide) dX10_jumps_3 ⟨Nat.zero_le _, Nat.zero_le _⟩) ?_
  refine zb_ne (tgt := 12) hx hb dX10_jumps_6 (by decide) (fun c6 => ?_) (fun c6 => ?_)
  · have hal := c6
    simp only [Bool.and_eq_true] at hal
    obtain ⟨⟨ha1, ha2⟩, ha3⟩ := hal
    obtain ⟨p0, hp0, rfl⟩ := isP_t ha1
    have ht := isSh_t ha3
    have hsz := sz_le ht
    refine lv_aload_n hx hb dX10_jumps_12 rfl (lv_at hl 0 rfl) ?_
    refine w_get (C := RX10) (T := TX10) (N := 12) 6 hx hb hts inX10 hown hw (by decide) o1 rfl (by decide) (hts _ tw_158) rfl dX10_jumps_13 ?_
    refine lv_aload_n hx hb dX10_jumps_16 rfl (lv_at hl 0 rfl) ?_
    refine w_get (C := RX10) (T := TX10) (N := 12) 0 hx hb hts inX10 hown hw (by decide) o1 rfl (by decide) (hts _ tw_152) rfl dX10_jumps_17 ?_
    refine lv_iload_n hx hb dX10_jumps_20 rfl (lv_at hl 1 rfl) ?_
    refine lv_iload_n hx hb dX10_jumps_21 rfl (lv_at hl 2 rfl) ?_
    refine lv_iload_n hx hb dX10_jumps_22 rfl (lv_at hl 3 rfl) ?_
    refine cQv (rV (As := [_, _, _, _]) ⟨hx, hb, hml, hown, hts⟩ hw (k_X3_follow l l1 l2 hm h1 h2 hn hp0 ht) (cv_X3_follow hts tw_362 rfl rfl ⟨Nat.le_of_ble_eq_true rfl, Nat.le_of_ble_eq_true rfl⟩) (by decide) l1 rfl rfl hl.1 rfl (by first | exact Nat.le_of_ble_eq_true rfl | decide) dX10_jumps_23 ⟨Nat.zero_le _, Nat.zero_le _⟩) hw hS (fun w1 H locs hp23 hw hS => ?_)
    have o1_1 : w1 0 = .inr (8, [.ref (gad G 1), .ref (gad G 3), .ref (gad G 5), .ref (gad G 8), .ref (gad G 9), .ref (gad G 11), .ref (gad G 16), .ref (gad G 18), .int (bi im), .ref (gad G 27), .ref (gad G 29), .int iz]) := by rw [hp23]; exact (vu_e (by first | decide | omega) (vu_e (by first | decide | omega) o1))
    have h1_1 : w1 1 = .inr (0, [.ref (gad G 2), .int (nI n)]) := by rw [hp23]; exact (vu_e (by first | decide | omega) (vu_e (by first | decide | omega) h1))
    have h2_1 : w1 2 = .inl (gI G, 132, .inl f) := by rw [hp23]; exact (vu_e (by first | decide | omega) (vu_e (by first | decide | omega) h2))
    have l1_1 : w1 16 = .inr (2, [.ref (gad G 17), .int (nI (szN t))]) := by rw [hp23]; exact vu_e (by decide) vu_s
    have l2_1 : w1 17 = .inl (gI G, 100, .inl (flF f n p0 d t g (szN t))) := by rw [hp23]; exact vu_s
    refine lv_iload hx hb dX10_jumps_26 (lv_at hl 4 rfl) ?_
    by_cases hs28 : w.toInt < 0 ∨ 4 < w.toInt
    · refine lv_tableOut (tgt := 111) hx hb dX10_jumps_28 hs28 (by decide) ?_
      refine lv_bipush (v := (-2)) hx hb dX10_jumps_111 (by decide) ?_
      exact re_Q hx hb hr hlocks (rfl) hw hS dX10_jumps_113 (⟨by obtain ⟨y0, y1, y2, y3, y4⟩ := sw4 hs28; simp [spJumps, ha1, ha2, ha3, y0, y1, y2, y3, y4], szN t, _, hsz.1, hp23⟩)
    · have hz28 : w.toInt = 0 ∨ w.toInt = 1 ∨ w.toInt = 2 ∨ w.toInt = 3 ∨ w.toInt = 4 := by omega
      rcases hz28 with hz28 | hz28 | hz28 | hz28 | hz28
      · refine lv_tableIn (off := 36) (tgt := 64) hx hb dX10_jumps_28 (by omega) (by omega) (by rw [hz28]; rfl) (by decide) ?_
        have hz28 : w = 0 := Int32.toInt_inj.mp (hz28.trans rfl)
        refine lv_aload_n hx hb dX10_jumps_64 rfl (lv_at hl 0 rfl) ?_
        refine w_get (C := RX10) (T := TX10) (N := 12) 6 hx hb hts inX10 hown hw (by decide) o1_1 rfl (by decide) (hts _ tw_158) rfl dX10_jumps_65 ?_
        refine cSe (rV (As := []) ⟨hx, hb, hml, hown, hts⟩ hw (k_X3_jumpCount l l1_1 l2_1 hsz.1 hsz.2) (cv_X3_jumpCount hts tw_387 rfl rfl ⟨Nat.le_of_ble_eq_true rfl, Nat.le_of_ble_eq_true rfl⟩) (by decide) l1_1 rfl rfl hl.1 rfl (by first | exact Nat.le_of_ble_eq_true rfl | decide) dX10_jumps_68 ⟨Nat.zero_le _, Nat.zero_le _⟩) ?_
        exact re_Q hx hb hr hlocks (rfl) hw hS dX10_jumps_71 (⟨by rw [cntU_congr (JP_congr (flF_og (f := f) (n := n) (p := p0) (d := d) (t := t) (g := g) (m := szN t))) (szN t) (Nat.le_refl _)]; simp [spJumps, ha1, ha2, ha3, hz28, pN_nI hp0, CPg], szN t, _, hsz.1, hp23⟩)
      · refine lv_tableIn (off := 44) (tgt := 72) hx hb dX10_jumps_28 (by omega) (by omega) (by rw [hz28]; rfl) (by decide) ?_
        have hz28 : w = 1 := Int32.toInt_inj.mp (hz28.trans rfl)
        refine lv_aload_n hx hb dX10_jumps_72 rfl (lv_at hl 0 rfl) ?_
        refine w_get (C := RX10) (T := TX10) (N := 12) 6 hx hb hts inX10 hown hw (by decide) o1_1 rfl (by decide) (hts _ tw_158) rfl dX10_jumps_73 ?_
        refine cSe (rV (As := []) ⟨hx, hb, hml, hown, hts⟩ hw (k_X3_firstJump l l1_1 l2_1 hsz.1 hsz.2) (cv_X3_firstJump hts tw_395 rfl rfl ⟨Nat.le_of_ble_eq_true rfl, Nat.le_of_ble_eq_true rfl⟩) (by decide) l1_1 rfl rfl hl.1 rfl (by first | exact Nat.le_of_ble_eq_true rfl | decide) dX10_jumps_76 ⟨Nat.zero_le _, Nat.zero_le _⟩) ?_
        exact re_Q hx hb hr hlocks (rfl) hw hS dX10_jumps_79 (⟨by rw [fstU_congr (JP_congr (flF_og (f := f) (n := n) (p := p0) (d := d) (t := t) (g := g) (m := szN t))) (szN t) (Nat.le_refl _)]; simp [spJumps, ha1, ha2, ha3, hz28, pN_nI hp0, CPg], szN t, _, hsz.1, hp23⟩)
      · refine lv_tableIn (off := 52) (tgt := 80) hx hb dX10_jumps_28 (by omega) (by omega) (by rw [hz28]; rfl) (by decide) ?_
        have hz28 : w = 2 := Int32.toInt_inj.mp (hz28.trans rfl)
        refine lv_aload_n hx hb dX10_jumps_80 rfl (lv_at hl 0 rfl) ?_
        refine w_get (C := RX10) (T := TX10) (N := 12) 6 hx hb hts inX10 hown hw (by decide) o1_1 rfl (by decide) (hts _ tw_158) rfl dX10_jumps_81 ?_
        refine cSe (rV (As := []) ⟨hx, hb, hml, hown, hts⟩ hw (k_X3_cliffCount l l1_1 l2_1 hsz.1 hsz.2) (cv_X3_cliffCount hts tw_399 rfl rfl ⟨Nat.le_of_ble_eq_true rfl, Nat.le_of_ble_eq_true rfl⟩) (by decide) l1_1 rfl rfl hl.1 rfl (by first | exact Nat.le_of_ble_eq_true rfl | decide) dX10_jumps_84 ⟨Nat.zero_le _, Nat.zero_le _⟩) ?_
        exact re_Q hx hb hr hlocks (rfl) hw hS dX10_jumps_87 (⟨by rw [cntU_congr (CP_congr (flF_og (f := f) (n := n) (p := p0) (d := d) (t := t) (g := g) (m := szN t))) (szN t) (Nat.le_refl _)]; simp [spJumps, ha1, ha2, ha3, hz28, pN_nI hp0]; rfl, szN t, _, hsz.1, hp23⟩)
      · refine lv_tableIn (off := 60) (tgt := 88) hx hb dX10_jumps_28 (by omega) (by omega) (by rw [hz28]; rfl) (by decide) ?_
        have hz28 : w = 3 := Int32.toInt_inj.mp (hz28.trans rfl)
        refine lv_aload_n hx hb dX10_jumps_88 rfl (lv_at hl 0 rfl) ?_
        refine w_get (C := RX10) (T := TX10) (N := 12) 6 hx hb hts inX10 hown hw (by decide) o1_1 rfl (by decide) (hts _ tw_158) rfl dX10_jumps_89 ?_
        refine cSe (rV (As := []) ⟨hx, hb, hml, hown, hts⟩ hw (k_X3_highestCliff l l1_1 l2_1 hsz.1 hsz.2) (cv_X3_highestCliff hts tw_408 rfl rfl ⟨Nat.le_of_ble_eq_true rfl, Nat.le_of_ble_eq_true rfl⟩) (by decide) l1_1 rfl rfl hl.1 rfl (by first | exact Nat.le_of_ble_eq_true rfl | decide) dX10_jumps_92 ⟨Nat.zero_le _, Nat.zero_le _⟩) ?_
        exact re_Q hx hb hr hlocks (rfl) hw hS dX10_jumps_95 (⟨by rw [hcl_congr (by omega) (flF_og (f := f) (n := n) (p := p0) (d := d) (t := t) (g := g) (m := szN t)) (szN t) (Nat.le_refl _)]; simp [spJumps, ha1, ha2, ha3, hz28, pN_nI hp0, CPg], szN t, _, hsz.1, hp23⟩)
      · refine lv_tableIn (off := 68) (tgt := 96) hx hb dX10_jumps_28 (by omega) (by omega) (by rw [hz28]; rfl) (by decide) ?_
        have hz28 : w = 4 := Int32.toInt_inj.mp (hz28.trans rfl)
        refine lv_aload_n hx hb dX10_jumps_96 rfl (lv_at hl 0 rfl) ?_
        refine w_get (C := RX10) (T := TX10) (N := 12) 6 hx hb hts inX10 hown hw (by decide) o1_1 rfl (by decide) (hts _ tw_158) rfl dX10_jumps_97 ?_
        refine lv_aload_n hx hb dX10_jumps_100 rfl (lv_at hl 0 rfl) ?_
        refine w_get (C := RX10) (T := TX10) (N := 12) 6 hx hb hts inX10 hown hw (by decide) o1_1 rfl (by decide) (hts _ tw_158) rfl dX10_jumps_101 ?_
        refine cSe (rV (As := []) ⟨hx, hb, hml, hown, hts⟩ hw (k_X3_highestCliff l l1_1 l2_1 hsz.1 hsz.2) (cv_X3_highestCliff hts tw_408 rfl rfl ⟨Nat.le_of_ble_eq_true rfl, Nat.le_of_ble_eq_true rfl⟩) (by decide) l1_1 rfl rfl hl.1 rfl (by first | exact Nat.le_of_ble_eq_true rfl | decide) dX10_jumps_104 ⟨Nat.zero_le _, Nat.zero_le _⟩) ?_
        refine cSe (rV (As := [_]) ⟨hx, hb, hml, hown, hts⟩ hw (k_X3_cliffHeight l l1_1 l2_1 hsz.1) (cv_X3_cliffHeight hts tw_412 rfl rfl ⟨Nat.le_of_ble_eq_true rfl, Nat.le_of_ble_eq_true rfl⟩) (by decide) l1_1 rfl rfl hl.1 rfl (by first | exact Nat.le_of_ble_eq_true rfl | decide) dX10_jumps_107 ⟨Nat.zero_le _, Nat.zero_le _⟩) ?_
        exact re_Q hx hb hr hlocks (rfl) hw hS dX10_jumps_110 (⟨by rw [chh_congr (by omega) (flF_og (f := f) (n := n) (p := p0) (d := d) (t := t) (g := g) (m := szN t)), hcl_congr (by omega) (flF_og (f := f) (n := n) (p := p0) (d := d) (t := t) (g := g) (m := szN t)) (szN t) (Nat.le_refl _)]; simp [spJumps, ha1, ha2, ha3, hz28, pN_nI hp0, CPg], szN t, _, hsz.1, hp23⟩)
  · refine lv_bipush (v := (-2)) hx hb dX10_jumps_9 (by decide) ?_
    exact re_Q hx hb hr hlocks (rfl) hw hS dX10_jumps_11 (⟨by simp [spJumps, c6], lnE_id l1 l2 hm⟩)
set_option maxHeartbeats 4000000 in
set_option maxRecDepth 100000 in
theorem k_X10_bends (l : Launch) {G : GT} {c : Nat → va_E} {im : Bool} {iz : Int32} (o1 : c 0 = .inr (8, [.ref (gad G 1), .ref (gad G 3), .ref (gad G 5), .ref (gad G 8), .ref (gad G 9), .ref (gad G 11), .ref (gad G 16), .ref (gad G 18), .int (bi im), .ref (gad G 27), .ref (gad G 29), .int iz])) {n : Nat} {f : Nat → Int32} (h1 : c 1 = .inr (0, [.ref (gad G 2), .int (nI n)])) (h2 : c 2 = .inl (gI G, 132, .inl f)) (hn : n ≤ 12) {m0 : Nat} {g : Nat → Int32} (l1 : c 16 = .inr (2, [.ref (gad G 17), .int (nI m0)])) (l2 : c 17 = .inl (gI G, 100, .inl g)) (hm : m0 ≤ 100) {a d t w : Int32} : Met l yX10_bends (wv yX10_bends cX10_bends 5 (some .int)) ({ frames := 5, cells := 0, slots := 0, locals := 121 } : Room) (va_Pc [.ref (gad G 0), .int a, .int d, .int t, .int w] (fun U => Hw G c U U.heap)) (va_Qi (fun r (c9 : Nat → va_E) => r = spBends f n a d t w ∧ lnE G c c9) (fun c9 t => Hw G c9 t t.heap) (gA G)) 0 0 (gA G) := by
  refine en (by decide +kernel) (by first | exact Nat.le_of_ble_eq_true rfl | decide) ?_
  intro p e s m below meth cd ls hx hb hr hml hown hts hlocks hnm hw hl
  have hl : lv_has ls 5 [(0, .ref (gad G 0)), (1, .int a), (2, .int d), (3, .int t), (4, .int w)] := hl
  have hX : Sw G s s.heap := hw.2.2.2.2.2
  have hS : va_S (gA G) s.heap s.heap [] := va_S.rf
  obtain ⟨H, hH⟩ : ∃ wz9, wz9 = s.heap := ⟨_, rfl⟩
  obtain ⟨locs, hlocs⟩ : ∃ wz9 : List Loc, wz9 = [] := ⟨_, rfl⟩
  have hw : Hw G c s H := by rw [hH]; exact hw
  have hS : va_S (gA G) s.heap H locs := by rw [hH, hlocs]; exact hS
  suffices hgo : W p l e ({ frames := 5, cells := 0, slots := 0, locals := 121 } : Room) s m (([.ref (gad G 0), .int a, .int d, .int t, .int w] : List Value).toArray) below meth cd H locs 0 0 (MQ below (va_Qi (fun r (c9 : Nat → va_E) => r = spBends f n a d t w ∧ lnE G c c9) (fun c9 t => Hw G c9 t t.heap) (gA G)) ([.ref (gad G 0), .int a, .int d, .int t, .int w] : List Value).toArray s 0 0 (gA G)) (F0 m 0 ls []) by rw [hH, hlocs] at hgo; exact hgo
  refine lv_iload_n hx hb dX10_bends_0 rfl (lv_at hl 1 rfl) ?_
  refine lv_iload_n hx hb dX10_bends_1 rfl (lv_at hl 2 rfl) ?_
  refine lv_iload_n hx hb dX10_bends_2 rfl (lv_at hl 3 rfl) ?_
  refine cSe (rST (As := [_, _, _]) ⟨hx, hb, hml, hown, hts⟩ (k_X10_isAlong l ) (cv_X10_isAlong hts tw_359 rfl rfl ⟨Nat.le_of_ble_eq_true rfl, Nat.le_of_ble_eq_true rfl⟩) rfl hl.1 rfl (by first | exact Nat.le_of_ble_eq_true rfl | decide) dX10_bends_3 ⟨Nat.zero_le _, Nat.zero_le _⟩) ?_
  refine zb_ne (tgt := 12) hx hb dX10_bends_6 (by decide) (fun c6 => ?_) (fun c6 => ?_)
  · have hal := c6
    simp only [Bool.and_eq_true] at hal
    obtain ⟨⟨ha1, ha2⟩, ha3⟩ := hal
    obtain ⟨p0, hp0, rfl⟩ := isP_t ha1
    have ht := isSh_t ha3
    have hsz := sz_le ht
    have hsz2 := sz_ge2 ht
    refine lv_aload_n hx hb dX10_bends_12 rfl (lv_at hl 0 rfl) ?_
    refine w_get (C := RX10) (T := TX10) (N := 12) 6 hx hb hts inX10 hown hw (by decide) o1 rfl (by decide) (hts _ tw_158) rfl dX10_bends_13 ?_
    refine lv_aload_n hx hb dX10_bends_16 rfl (lv_at hl 0 rfl) ?_
    refine w_get (C := RX10) (T := TX10) (N := 12) 0 hx hb hts inX10 hown hw (by decide) o1 rfl (by decide) (hts _ tw_152) rfl dX10_bends_17 ?_
    refine lv_iload_n hx hb dX10_bends_20 rfl (lv_at hl 1 rfl) ?_
    refine lv_iload_n hx hb dX10_bends_21 rfl (lv_at hl 2 rfl) ?_
    refine lv_iload_n hx hb dX10_bends_22 rfl (lv_at hl 3 rfl) ?_
    refine cQv (rV (As := [_, _, _, _]) ⟨hx, hb, hml, hown, hts⟩ hw (k_X3_follow l l1 l2 hm h1 h2 hn hp0 ht) (cv_X3_follow hts tw_362 rfl rfl ⟨Nat.le_of_ble_eq_true rfl, Nat.le_of_ble_eq_true rfl⟩) (by decide) l1 rfl rfl hl.1 rfl (by first | exact Nat.le_of_ble_eq_true rfl | decide) dX10_bends_23 ⟨Nat.zero_le _, Nat.zero_le _⟩) hw hS (fun w1 H locs hp23 hw hS => ?_)
    have o1_1 : w1 0 = .inr (8, [.ref (gad G 1), .ref (gad G 3), .ref (gad G 5), .ref (gad G 8), .ref (gad G 9), .ref (gad G 11), .ref (gad G 16), .ref (gad G 18), .int (bi im), .ref (gad G 27), .ref (gad G 29), .int iz]) := by rw [hp23]; exact (vu_e (by first | decide | omega) (vu_e (by first | decide | omega) o1))
    have h1_1 : w1 1 = .inr (0, [.ref (gad G 2), .int (nI n)]) := by rw [hp23]; exact (vu_e (by first | decide | omega) (vu_e (by first | decide | omega) h1))
    have h2_1 : w1 2 = .inl (gI G, 132, .inl f) := by rw [hp23]; exact (vu_e (by first | decide | omega) (vu_e (by first | decide | omega) h2))
    have l1_1 : w1 16 = .inr (2, [.ref (gad G 17), .int (nI (szN t))]) := by rw [hp23]; exact vu_e (by decide) vu_s
    have l2_1 : w1 17 = .inl (gI G, 100, .inl (flF f n p0 d t g (szN t))) := by rw [hp23]; exact vu_s
    refine lv_iload hx hb dX10_bends_26 (lv_at hl 4 rfl) ?_
    by_cases hs28 : w.toInt < 0 ∨ 2 < w.toInt
    · refine lv_tableOut (tgt := 80) hx hb dX10_bends_28 hs28 (by decide) ?_
      refine lv_bipush (v := (-2)) hx hb dX10_bends_80 (by decide) ?_
      exact re_Q hx hb hr hlocks (rfl) hw hS dX10_bends_82 (⟨by obtain ⟨y0, y1, y2⟩ := sw2 hs28; simp [spBends, ha1, ha2, ha3, y0, y1, y2], szN t, _, hsz.1, hp23⟩)
    · have hz28 : w.toInt = 0 ∨ w.toInt = 1 ∨ w.toInt = 2 := by omega
      rcases hz28 with hz28 | hz28 | hz28
      · refine lv_tableIn (off := 28) (tgt := 56) hx hb dX10_bends_28 (by omega) (by omega) (by rw [hz28]; rfl) (by decide) ?_
        have hz28 : w = 0 := Int32.toInt_inj.mp (hz28.trans rfl)
        refine lv_aload_n hx hb dX10_bends_56 rfl (lv_at hl 0 rfl) ?_
        refine w_get (C := RX10) (T := TX10) (N := 12) 6 hx hb hts inX10 hown hw (by decide) o1_1 rfl (by decide) (hts _ tw_158) rfl dX10_bends_57 ?_
        refine cSe (rV (As := []) ⟨hx, hb, hml, hown, hts⟩ hw (k_X3_bendCount l l1_1 l2_1 hsz.1 hsz2) (cv_X3_bendCount hts tw_417 rfl rfl ⟨Nat.le_of_ble_eq_true rfl, Nat.le_of_ble_eq_true rfl⟩) (by decide) l1_1 rfl rfl hl.1 rfl (by first | exact Nat.le_of_ble_eq_true rfl | decide) dX10_bends_60 ⟨Nat.zero_le _, Nat.zero_le _⟩) ?_
        exact re_Q hx hb hr hlocks (rfl) hw hS dX10_bends_63 (⟨by rw [cntU_congr (BP_congr (flF_og (f := f) (n := n) (p := p0) (d := d) (t := t) (g := g) (m := szN t))) (szN t) (Nat.le_refl _)]; simp [spBends, ha1, ha2, ha3, hz28, pN_nI hp0, CPg], szN t, _, hsz.1, hp23⟩)
      · refine lv_tableIn (off := 36) (tgt := 64) hx hb dX10_bends_28 (by omega) (by omega) (by rw [hz28]; rfl) (by decide) ?_
        have hz28 : w = 1 := Int32.toInt_inj.mp (hz28.trans rfl)
        refine lv_aload_n hx hb dX10_bends_64 rfl (lv_at hl 0 rfl) ?_
        refine w_get (C := RX10) (T := TX10) (N := 12) 6 hx hb hts inX10 hown hw (by decide) o1_1 rfl (by decide) (hts _ tw_158) rfl dX10_bends_65 ?_
        refine cSe (rV (As := []) ⟨hx, hb, hml, hown, hts⟩ hw (k_X3_firstBend l l1_1 l2_1 hsz.1 hsz2) (cv_X3_firstBend hts tw_425 rfl rfl ⟨Nat.le_of_ble_eq_true rfl, Nat.le_of_ble_eq_true rfl⟩) (by decide) l1_1 rfl rfl hl.1 rfl (by first | exact Nat.le_of_ble_eq_true rfl | decide) dX10_bends_68 ⟨Nat.zero_le _, Nat.zero_le _⟩) ?_
        exact re_Q hx hb hr hlocks (rfl) hw hS dX10_bends_71 (⟨by rw [fstU_congr (BP_congr (flF_og (f := f) (n := n) (p := p0) (d := d) (t := t) (g := g) (m := szN t))) (szN t) (Nat.le_refl _)]; simp [spBends, ha1, ha2, ha3, hz28, pN_nI hp0, CPg], szN t, _, hsz.1, hp23⟩)
      · refine lv_tableIn (off := 44) (tgt := 72) hx hb dX10_bends_28 (by omega) (by omega) (by rw [hz28]; rfl) (by decide) ?_
        have hz28 : w = 2 := Int32.toInt_inj.mp (hz28.trans rfl)
        refine lv_aload_n hx hb dX10_bends_72 rfl (lv_at hl 0 rfl) ?_
        refine w_get (C := RX10) (T := TX10) (N := 12) 6 hx hb hts inX10 hown hw (by decide) o1_1 rfl (by decide) (hts _ tw_158) rfl dX10_bends_73 ?_
        refine cSe (rV (As := []) ⟨hx, hb, hml, hown, hts⟩ hw (k_X3_longestLevel l l1_1 l2_1 hsz.1 hsz.2) (cv_X3_longestLevel hts tw_429 rfl rfl ⟨Nat.le_of_ble_eq_true rfl, Nat.le_of_ble_eq_true rfl⟩) (by decide) l1_1 rfl rfl hl.1 rfl (by first | exact Nat.le_of_ble_eq_true rfl | decide) dX10_bends_76 ⟨Nat.zero_le _, Nat.zero_le _⟩) ?_
        exact re_Q hx hb hr hlocks (rfl) hw hS dX10_bends_79 (⟨by rw [lvl_congr (flF_og (f := f) (n := n) (p := p0) (d := d) (t := t) (g := g) (m := szN t)) (szN t) (Nat.le_refl _)]; simp [spBends, ha1, ha2, ha3, hz28, pN_nI hp0, CPg], szN t, _, hsz.1, hp23⟩)
  · refine lv_bipush (v := (-2)) hx hb dX10_bends_9 (by decide) ?_
    exact re_Q hx hb hr hlocks (rfl) hw hS dX10_bends_11 (⟨by simp [spBends, c6], lnE_id l1 l2 hm⟩)
set_option maxHeartbeats 4000000 in
set_option maxRecDepth 100000 in
theorem k_X10_enough (l : Launch) {G : GT} {c : Nat → va_E} {im : Bool} {iz : Int32} (o1 : c 0 = .inr (8, [.ref (gad G 1), .ref (gad G 3), .ref (gad G 5), .ref (gad G 8), .ref (gad G 9), .ref (gad G 11), .ref (gad G 16), .ref (gad G 18), .int (bi im), .ref (gad G 27), .ref (gad G 29), .int iz])) {n : Nat} {f : Nat → Int32} (h1 : c 1 = .inr (0, [.ref (gad G 2), .int (nI n)])) (h2 : c 2 = .inl (gI G, 132, .inl f)) (hn : n ≤ 12) {m0 : Nat} {g : Nat → Int32} (l1 : c 16 = .inr (2, [.ref (gad G 17), .int (nI m0)])) (l2 : c 17 = .inl (gI G, 100, .inl g)) (hm : m0 ≤ 100) {a d t w : Int32} : Met l yX10_enough (wv yX10_enough cX10_enough 5 (some .int)) ({ frames := 5, cells := 0, slots := 0, locals := 121 } : Room) (va_Pc [.ref (gad G 0), .int a, .int d, .int t, .int w] (fun U => Hw G c U U.heap)) (va_Qi (fun r (c9 : Nat → va_E) => r = spEnough f n a d t w ∧ lnE G c c9) (fun c9 t => Hw G c9 t t.heap) (gA G)) 0 0 (gA G) := by
  refine en (by decide +kernel) (by first | exact Nat.le_of_ble_eq_true rfl | decide) ?_
  intro p e s m below meth cd ls hx hb hr hml hown hts hlocks hnm hw hl
  have hl : lv_has ls 5 [(0, .ref (gad G 0)), (1, .int a), (2, .int d), (3, .int t), (4, .int w)] := hl
  have hX : Sw G s s.heap := hw.2.2.2.2.2
  have hS : va_S (gA G) s.heap s.heap [] := va_S.rf
  obtain ⟨H, hH⟩ : ∃ wz9, wz9 = s.heap := ⟨_, rfl⟩
  obtain ⟨locs, hlocs⟩ : ∃ wz9 : List Loc, wz9 = [] := ⟨_, rfl⟩
  have hw : Hw G c s H := by rw [hH]; exact hw
  have hS : va_S (gA G) s.heap H locs := by rw [hH, hlocs]; exact hS
  suffices hgo : W p l e ({ frames := 5, cells := 0, slots := 0, locals := 121 } : Room) s m (([.ref (gad G 0), .int a, .int d, .int t, .int w] : List Value).toArray) below meth cd H locs 0 0 (MQ below (va_Qi (fun r (c9 : Nat → va_E) => r = spEnough f n a d t w ∧ lnE G c c9) (fun c9 t => Hw G c9 t t.heap) (gA G)) ([.ref (gad G 0), .int a, .int d, .int t, .int w] : List Value).toArray s 0 0 (gA G)) (F0 m 0 ls []) by rw [hH, hlocs] at hgo; exact hgo
  refine lv_iload_n hx hb dX10_enough_0 rfl (lv_at hl 1 rfl) ?_
  refine lv_iload_n hx hb dX10_enough_1 rfl (lv_at hl 2 rfl) ?_
  refine lv_iload_n hx hb dX10_enough_2 rfl (lv_at hl 3 rfl) ?_
  refine cSe (rST (As := [_, _, _]) ⟨hx, hb, hml, hown, hts⟩ (k_X10_isAlong l ) (cv_X10_isAlong hts tw_359 rfl rfl ⟨Nat.le_of_ble_eq_true rfl, Nat.le_of_ble_eq_true rfl⟩) rfl hl.1 rfl (by first | exact Nat.le_of_ble_eq_true rfl | decide) dX10_enough_3 ⟨Nat.zero_le _, Nat.zero_le _⟩) ?_
  refine zb_eq (tgt := 14) hx hb dX10_enough_6 (by decide) (fun c6 => ?_) (fun c6 => ?_)
  · refine lv_bipush (v := (-2)) hx hb dX10_enough_14 (by decide) ?_
    exact re_Q hx hb hr hlocks (rfl) hw hS dX10_enough_16 (⟨by simp [spEnough, c6], lnE_id l1 l2 hm⟩)
  · refine lv_iload hx hb dX10_enough_9 (lv_at hl 4 rfl) ?_
    refine lv_if_ge (tgt := 17) hx hb dX10_enough_11 (by decide) (fun c11 => ?_) (fun c11 => ?_)
    · have hal := c6
      simp only [Bool.and_eq_true] at hal
      obtain ⟨⟨ha1, ha2⟩, ha3⟩ := hal
      obtain ⟨p0, hp0, rfl⟩ := isP_t ha1
      have ht := isSh_t ha3
      have hsz := sz_le ht
      refine lv_aload_n hx hb dX10_enough_17 rfl (lv_at hl 0 rfl) ?_
      refine w_get (C := RX10) (T := TX10) (N := 12) 6 hx hb hts inX10 hown hw (by decide) o1 rfl (by decide) (hts _ tw_158) rfl dX10_enough_18 ?_
      refine lv_aload_n hx hb dX10_enough_21 rfl (lv_at hl 0 rfl) ?_
      refine w_get (C := RX10) (T := TX10) (N := 12) 0 hx hb hts inX10 hown hw (by decide) o1 rfl (by decide) (hts _ tw_152) rfl dX10_enough_22 ?_
      refine lv_iload_n hx hb dX10_enough_25 rfl (lv_at hl 1 rfl) ?_
      refine lv_iload_n hx hb dX10_enough_26 rfl (lv_at hl 2 rfl) ?_
      refine lv_iload_n hx hb dX10_enough_27 rfl (lv_at hl 3 rfl) ?_
      refine cQv (rV (As := [_, _, _, _]) ⟨hx, hb, hml, hown, hts⟩ hw (k_X3_follow l l1 l2 hm h1 h2 hn hp0 ht) (cv_X3_follow hts tw_362 rfl rfl ⟨Nat.le_of_ble_eq_true rfl, Nat.le_of_ble_eq_true rfl⟩) (by decide) l1 rfl rfl hl.1 rfl (by first | exact Nat.le_of_ble_eq_true rfl | decide) dX10_enough_28 ⟨Nat.zero_le _, Nat.zero_le _⟩) hw hS (fun w1 H locs hp28 hw hS => ?_)
      have o1_1 : w1 0 = .inr (8, [.ref (gad G 1), .ref (gad G 3), .ref (gad G 5), .ref (gad G 8), .ref (gad G 9), .ref (gad G 11), .ref (gad G 16), .ref (gad G 18), .int (bi im), .ref (gad G 27), .ref (gad G 29), .int iz]) := by rw [hp28]; exact (vu_e (by first | decide | omega) (vu_e (by first | decide | omega) o1))
      have h1_1 : w1 1 = .inr (0, [.ref (gad G 2), .int (nI n)]) := by rw [hp28]; exact (vu_e (by first | decide | omega) (vu_e (by first | decide | omega) h1))
      have h2_1 : w1 2 = .inl (gI G, 132, .inl f) := by rw [hp28]; exact (vu_e (by first | decide | omega) (vu_e (by first | decide | omega) h2))
      have l1_1 : w1 16 = .inr (2, [.ref (gad G 17), .int (nI (szN t))]) := by rw [hp28]; exact vu_e (by decide) vu_s
      have l2_1 : w1 17 = .inl (gI G, 100, .inl (flF f n p0 d t g (szN t))) := by rw [hp28]; exact vu_s
      refine lv_aload_n hx hb dX10_enough_31 rfl (lv_at hl 0 rfl) ?_
      refine w_get (C := RX10) (T := TX10) (N := 12) 6 hx hb hts inX10 hown hw (by decide) o1_1 rfl (by decide) (hts _ tw_158) rfl dX10_enough_32 ?_
      refine lv_iload hx hb dX10_enough_35 (lv_at hl 4 rfl) ?_
      refine cSe (rV (As := [_]) ⟨hx, hb, hml, hown, hts⟩ hw (k_X3_leastReaching l l1_1 l2_1 hsz.1) (cv_X3_leastReaching hts tw_437 rfl rfl ⟨Nat.le_of_ble_eq_true rfl, Nat.le_of_ble_eq_true rfl⟩) (by decide) l1_1 rfl rfl hl.1 rfl (by first | exact Nat.le_of_ble_eq_true rfl | decide) dX10_enough_37 ⟨Nat.zero_le _, Nat.zero_le _⟩) ?_
      exact re_Q hx hb hr hlocks (rfl) hw hS dX10_enough_40 (⟨by rw [fstU_congr (P' := fun v => !decide (og f n p0 d t v < w)) (fun v hv => by rw [flF_og v hv]) (szN t) (Nat.le_refl _)]; simp [spEnough, ha1, ha2, ha3, Int32.not_lt.mpr c11, pN_nI hp0], szN t, _, hsz.1, hp28⟩)
    · refine lv_bipush (v := (-2)) hx hb dX10_enough_14 (by decide) ?_
      exact re_Q hx hb hr hlocks (rfl) hw hS dX10_enough_16 (⟨by simp [spEnough, c6, Int32.not_le.mp c11], lnE_id l1 l2 hm⟩)
set_option maxHeartbeats 4000000 in
set_option maxRecDepth 100000 in
theorem k_X10_until (l : Launch) {G : GT} {c : Nat → va_E} {im : Bool} {iz : Int32} (o1 : c 0 = .inr (8, [.ref (gad G 1), .ref (gad G 3), .ref (gad G 5), .ref (gad G 8), .ref (gad G 9), .ref (gad G 11), .ref (gad G 16), .ref (gad G 18), .int (bi im), .ref (gad G 27), .ref (gad G 29), .int iz])) {n : Nat} {f : Nat → Int32} (h1 : c 1 = .inr (0, [.ref (gad G 2), .int (nI n)])) (h2 : c 2 = .inl (gI G, 132, .inl f)) (hn : n ≤ 12) {a d : Int32} : Met l yX10_until (wv yX10_until cX10_until 6 (some .int)) ({ frames := 4, cells := 0, slots := 0, locals := 96 } : Room) (va_Pc [.ref (gad G 0), .int a, .int d] (fun U => Hw G c U U.heap)) (vp_Si (fun r => r = if isP a && isDy d then untE f n (pN a) (ocm f n (pN a) d) 24 (nxe f d n) else -2)) 0 0 (fun _ => False) := by
  refine en (by decide +kernel) (by first | exact Nat.le_of_ble_eq_true rfl | decide) ?_
  intro p e s m below meth cd ls hx hb hr hml hown hts hlocks hnm hw hl
  have hl : lv_has ls 6 [(0, .ref (gad G 0)), (1, .int a), (2, .int d)] := hl
  refine lv_iload_n hx hb dX10_until_0 rfl (lv_at hl 1 rfl) ?_
  refine cSe (rST (As := [_]) ⟨hx, hb, hml, hown, hts⟩ (k_X10_isProfile l ) (cv_X10_isProfile hts tw_276 rfl rfl ⟨Nat.le_of_ble_eq_true rfl, Nat.le_of_ble_eq_true rfl⟩) rfl hl.1 rfl (by first | exact Nat.le_of_ble_eq_true rfl | decide) dX10_until_1 ⟨Nat.zero_le _, Nat.zero_le _⟩) ?_
  refine zb_eq (tgt := 14) hx hb dX10_until_4 (by decide) (fun c4 => ?_) (fun c4 => ?_)
  · refine lv_bipush (v := (-2)) hx hb dX10_until_14 (by decide) ?_
    exact re_S hx hb hr hlocks (rfl) dX10_until_16 (by simp [c4])
  · refine lv_iload_n hx hb dX10_until_7 rfl (lv_at hl 2 rfl) ?_
    refine cSe (rST (As := [_]) ⟨hx, hb, hml, hown, hts⟩ (k_X10_isDay l ) (cv_X10_isDay hts tw_237 rfl rfl ⟨Nat.le_of_ble_eq_true rfl, Nat.le_of_ble_eq_true rfl⟩) rfl hl.1 rfl (by first | exact Nat.le_of_ble_eq_true rfl | decide) dX10_until_8 ⟨Nat.zero_le _, Nat.zero_le _⟩) ?_
    refine zb_ne (tgt := 17) hx hb dX10_until_11 (by decide) (fun c11 => ?_) (fun c11 => ?_)
    · obtain ⟨p0, hp0, rfl⟩ := isP_t c4
      refine lv_aload_n hx hb dX10_until_17 rfl (lv_at hl 0 rfl) ?_
      refine w_get (C := RX10) (T := TX10) (N := 12) 0 hx hb hts inX10 hown hw (by decide) o1 rfl (by decide) (hts _ tw_152) rfl dX10_until_18 ?_
      refine lv_iload_n hx hb dX10_until_21 rfl (lv_at hl 1 rfl) ?_
      refine lv_iload_n hx hb dX10_until_22 rfl (lv_at hl 2 rfl) ?_
      refine cSe (rV (As := [_, _]) ⟨hx, hb, hml, hown, hts⟩ hw (k_X1_total l (by decide) (by decide) h1 h2 hn hp0) (cv_X1_total hts tw_287 rfl rfl ⟨Nat.le_of_ble_eq_true rfl, Nat.le_of_ble_eq_true rfl⟩) (by decide) h1 rfl rfl hl.1 rfl (by first | exact Nat.le_of_ble_eq_true rfl | decide) dX10_until_23 ⟨Nat.zero_le _, Nat.zero_le _⟩) ?_
      refine lv_istore_n (lv' := [(3, _), (0, _), (1, _), (2, _)]) hx hb dX10_until_26 rfl hl (by decide) rfl (fun ls hl => ?_)
      refine lv_aload_n hx hb dX10_until_27 rfl (lv_at hl 1 rfl) ?_
      refine w_get (C := RX10) (T := TX10) (N := 12) 0 hx hb hts inX10 hown hw (by decide) o1 rfl (by decide) (hts _ tw_152) rfl dX10_until_28 ?_
      refine lv_iload_n hx hb dX10_until_31 rfl (lv_at hl 3 rfl) ?_
      refine cSe (rV (As := [_]) ⟨hx, hb, hml, hown, hts⟩ hw (k_X1_nextEdge l (by decide) (by decide) h1 h2 hn) (cv_X1_nextEdge hts tw_477 rfl rfl ⟨Nat.le_of_ble_eq_true rfl, Nat.le_of_ble_eq_true rfl⟩) (by decide) h1 rfl rfl hl.1 rfl (by first | exact Nat.le_of_ble_eq_true rfl | decide) dX10_until_32 ⟨Nat.zero_le _, Nat.zero_le _⟩) ?_
      refine lv_istore (lv' := [(4, _), (3, _), (0, _), (1, _), (2, _)]) hx hb dX10_until_35 hl (by decide) rfl (fun ls hl => ?_)
      refine lv_iconst (v := 0) hx hb dX10_until_37 (by decide) ?_
      refine lv_istore (lv' := [(5, _), (4, _), (3, _), (0, _), (1, _), (2, _)]) hx hb dX10_until_38 hl (by decide) rfl (fun ls hl => ?_)
      have L40 : ∀ (N : Nat) (i : Nat) (x : Int32), (i + N = 24) → (untE f n p0 (ocm f n p0 d) 24 (nxe f d n) = untE f n p0 (ocm f n p0 d) N x) → ∀ ls : Array Slot, lv_has ls 6 [(5, .int (nI i)), (4, .int x), (3, .int (ocm f n p0 d)), (2, .int d), (1, .int (nI p0)), (0, .ref (gad G 0))] → W p l e ({ frames := 4, cells := 0, slots := 0, locals := 96 } : Room) s m (([.ref (gad G 0), .int (nI p0), .int d] : List Value).toArray) below meth cd s.heap [] 0 0 (MQ below (vp_Si (fun r => r = if isP (nI p0) && isDy d then untE f n (pN (nI p0)) (ocm f n (pN (nI p0)) d) 24 (nxe f d n) else -2)) ([.ref (gad G 0), .int (nI p0), .int d] : List Value).toArray s 0 0 (fun _ => False)) (F0 m 40 ls []) := by
        intro N
        induction N with
        | zero =>
          intro i  x  hN hA ls hl
          obtain rfl : i = 24 := by omega
          refine lv_iload hx hb dX10_until_40 (lv_at hl 0 rfl) ?_
          refine lv_bipush (v := 24) hx hb dX10_until_42 (by decide) ?_
          refine lv_icmp_ge (tgt := 89) hx hb dX10_until_44 (by decide) (fun c44 => ?_) (fun q => absurd (by decide) q)
          refine lv_iconst (v := (-1)) hx hb dX10_until_89 (by decide) ?_
          exact re_S hx hb hr hlocks (rfl) dX10_until_90 (by rw [c4, c11, pN_nI hp0, hA, untE]; rfl)
        | succ N ih =>
          intro i  x  hN hA ls hl
          refine lv_iload hx hb dX10_until_40 (lv_at hl 0 rfl) ?_
          refine lv_bipush (v := 24) hx hb dX10_until_42 (by decide) ?_
          refine lv_icmp_ge (tgt := 89) hx hb dX10_until_44 (by decide) (fun q => absurd q (nI_ge (b := 24) (by omega) (by omega))) (fun c44 => ?_)
          refine lv_iload hx hb dX10_until_47 (lv_at hl 1 rfl) ?_
          refine lv_sipush (v := 999) hx hb dX10_until_49 (by decide) ?_
          refine lv_icmp_gt (tgt := 89) hx hb dX10_until_52 (by decide) (fun c52 => ?_) (fun c52 => ?_)
          · refine lv_iconst (v := (-1)) hx hb dX10_until_89 (by decide) ?_
            exact re_S hx hb hr hlocks (rfl) dX10_until_90 (by rw [c4, c11, pN_nI hp0, hA, untE, if_pos c52]; rfl)
          · refine lv_aload_n hx hb dX10_until_55 rfl (lv_at hl 5 rfl) ?_
            refine w_get (C := RX10) (T := TX10) (N := 12) 0 hx hb hts inX10 hown hw (by decide) o1 rfl (by decide) (hts _ tw_152) rfl dX10_until_56 ?_
            refine lv_iload_n hx hb dX10_until_59 rfl (lv_at hl 4 rfl) ?_
            refine lv_iload hx hb dX10_until_60 (lv_at hl 1 rfl) ?_
            refine cSe (rV (As := [_, _]) ⟨hx, hb, hml, hown, hts⟩ hw (k_X1_total l (by decide) (by decide) h1 h2 hn hp0) (cv_X1_total hts tw_287 rfl rfl ⟨Nat.le_of_ble_eq_true rfl, Nat.le_of_ble_eq_true rfl⟩) (by decide) h1 rfl rfl hl.1 rfl (by first | exact Nat.le_of_ble_eq_true rfl | decide) dX10_until_62 ⟨Nat.zero_le _, Nat.zero_le _⟩) ?_
            refine lv_iload_n hx hb dX10_until_65 rfl (lv_at hl 2 rfl) ?_
            refine lv_icmp_eq (tgt := 72) hx hb dX10_until_66 (by decide) (fun c66 => ?_) (fun c66 => ?_)
            · refine lv_aload_n hx hb dX10_until_72 rfl (lv_at hl 5 rfl) ?_
              refine w_get (C := RX10) (T := TX10) (N := 12) 0 hx hb hts inX10 hown hw (by decide) o1 rfl (by decide) (hts _ tw_152) rfl dX10_until_73 ?_
              refine lv_iload hx hb dX10_until_76 (lv_at hl 1 rfl) ?_
              refine cSe (rV (As := [_]) ⟨hx, hb, hml, hown, hts⟩ hw (k_X1_nextEdge l (by decide) (by decide) h1 h2 hn) (cv_X1_nextEdge hts tw_477 rfl rfl ⟨Nat.le_of_ble_eq_true rfl, Nat.le_of_ble_eq_true rfl⟩) (by decide) h1 rfl rfl hl.1 rfl (by first | exact Nat.le_of_ble_eq_true rfl | decide) dX10_until_78 ⟨Nat.zero_le _, Nat.zero_le _⟩) ?_
              refine lv_istore (lv' := [(4, _), (5, _), (3, _), (2, _), (1, _), (0, _)]) hx hb dX10_until_81 hl (by decide) rfl (fun ls hl => ?_)
              refine lv_iinc (v := nI (i + 1)) (lv' := [(5, _), (4, _), (3, _), (2, _), (1, _), (0, _)]) hx hb dX10_until_83 hl (k := 1) rfl (inc1 i) (by decide) rfl (fun ls hl => ?_)
              refine lv_goto (tgt := 40) hx hb dX10_until_86 (by decide) ?_
              exact ih (i + 1) _ (by omega) (by rw [hA, untE, if_neg c52, if_pos c66]) ls (lv_sub hl [0, 1, 2, 3, 4, 5] rfl)
            · refine lv_iload hx hb dX10_until_69 (lv_at hl 1 rfl) ?_
              exact re_S hx hb hr hlocks (rfl) dX10_until_71 (by rw [c4, c11, pN_nI hp0, hA, untE, if_neg c52, if_neg c66]; rfl)
      exact L40 24 0 (nxe f d n) (by omega) rfl ls (lv_sub hl [0, 1, 2, 5, 4, 3] rfl)
    · refine lv_bipush (v := (-2)) hx hb dX10_until_14 (by decide) ?_
      exact re_S hx hb hr hlocks (rfl) dX10_until_16 (by simp [c4, c11])
set_option maxHeartbeats 4000000 in
set_option maxRecDepth 100000 in
theorem k_X10_mark (l : Launch) {G : GT} {c : Nat → va_E} {im : Bool} {iz : Int32} (o1 : c 0 = .inr (8, [.ref (gad G 1), .ref (gad G 3), .ref (gad G 5), .ref (gad G 8), .ref (gad G 9), .ref (gad G 11), .ref (gad G 16), .ref (gad G 18), .int (bi im), .ref (gad G 27), .ref (gad G 29), .int iz])) {n : Nat} {f : Nat → Int32} (h1 : c 1 = .inr (0, [.ref (gad G 2), .int (nI n)])) (h2 : c 2 = .inl (gI G, 132, .inl f)) (hn : n ≤ 12) {n1 : Nat} {f1 : Nat → Int32} (m1 : c 3 = .inr (0, [.ref (gad G 4), .int (nI n1)])) (m2 : c 4 = .inl (gI G, 132, .inl f1)) (hn1 : n1 ≤ 12)  : Met l yX10_mark (wv yX10_mark cX10_mark 1 (some .int)) ({ frames := 2, cells := 0, slots := 0, locals := 47 } : Room) (va_Pc [.ref (gad G 0)] (fun U => Hw G c U U.heap)) (va_Qi (fun r (c9 : Nat → va_E) => r = nI n ∧ c9 = va_up (va_up c 3 (.inr (0, [.ref (gad G 4), .int (nI n)]))) 4 (.inl (gI G, 132, .inl f))) (fun c9 t => Hw G c9 t t.heap) (gA G)) 0 0 (gA G) := by
  refine en (by decide +kernel) (by first | exact Nat.le_of_ble_eq_true rfl | decide) ?_
  intro p e s m below meth cd ls hx hb hr hml hown hts hlocks hnm hw hl
  have hl : lv_has ls 1 [(0, .ref (gad G 0))] := hl
  have hX : Sw G s s.heap := hw.2.2.2.2.2
  have hS : va_S (gA G) s.heap s.heap [] := va_S.rf
  obtain ⟨H, hH⟩ : ∃ wz9, wz9 = s.heap := ⟨_, rfl⟩
  obtain ⟨locs, hlocs⟩ : ∃ wz9 : List Loc, wz9 = [] := ⟨_, rfl⟩
  have hw : Hw G c s H := by rw [hH]; exact hw
  have hS : va_S (gA G) s.heap H locs := by rw [hH, hlocs]; exact hS
  suffices hgo : W p l e ({ frames := 2, cells := 0, slots := 0, locals := 47 } : Room) s m (([.ref (gad G 0)] : List Value).toArray) below meth cd H locs 0 0 (MQ below (va_Qi (fun r (c9 : Nat → va_E) => r = nI n ∧ c9 = va_up (va_up c 3 (.inr (0, [.ref (gad G 4), .int (nI n)]))) 4 (.inl (gI G, 132, .inl f))) (fun c9 t => Hw G c9 t t.heap) (gA G)) ([.ref (gad G 0)] : List Value).toArray s 0 0 (gA G)) (F0 m 0 ls []) by rw [hH, hlocs] at hgo; exact hgo
  refine lv_aload_n hx hb dX10_mark_0 rfl (lv_at hl 0 rfl) ?_
  refine w_get (C := RX10) (T := TX10) (N := 12) 1 hx hb hts inX10 hown hw (by decide) o1 rfl (by decide) (hts _ tw_153) rfl dX10_mark_1 ?_
  refine lv_aload_n hx hb dX10_mark_4 rfl (lv_at hl 0 rfl) ?_
  refine w_get (C := RX10) (T := TX10) (N := 12) 0 hx hb hts inX10 hown hw (by decide) o1 rfl (by decide) (hts _ tw_152) rfl dX10_mark_5 ?_
  refine cQv (rV (As := [_]) ⟨hx, hb, hml, hown, hts⟩ hw (k_X1_become_m l m1 m2 h1 h2) (cv_X1_become hts tw_485 rfl rfl ⟨Nat.le_of_ble_eq_true rfl, Nat.le_of_ble_eq_true rfl⟩) (by decide) m1 rfl rfl hl.1 rfl (by first | exact Nat.le_of_ble_eq_true rfl | decide) dX10_mark_8 ⟨Nat.zero_le _, Nat.zero_le _⟩) hw hS (fun w1 H locs hp8 hw hS => ?_)
  have o1_1 : w1 0 = .inr (8, [.ref (gad G 1), .ref (gad G 3), .ref (gad G 5), .ref (gad G 8), .ref (gad G 9), .ref (gad G 11), .ref (gad G 16), .ref (gad G 18), .int (bi im), .ref (gad G 27), .ref (gad G 29), .int iz]) := by rw [hp8]; exact (vu_e (by first | decide | omega) (vu_e (by first | decide | omega) o1))
  have h1_1 : w1 1 = .inr (0, [.ref (gad G 2), .int (nI n)]) := by rw [hp8]; exact (vu_e (by first | decide | omega) (vu_e (by first | decide | omega) h1))
  have h2_1 : w1 2 = .inl (gI G, 132, .inl f) := by rw [hp8]; exact (vu_e (by first | decide | omega) (vu_e (by first | decide | omega) h2))
  have m1_1 : w1 3 = .inr (0, [.ref (gad G 4), .int (nI n)]) := by rw [hp8]; exact vu_e (by decide) vu_s
  have m2_1 : w1 4 = .inl (gI G, 132, .inl f) := by rw [hp8]; exact vu_s
  refine lv_aload_n hx hb dX10_mark_11 rfl (lv_at hl 0 rfl) ?_
  refine w_get (C := RX10) (T := TX10) (N := 12) 0 hx hb hts inX10 hown hw (by decide) o1_1 rfl (by decide) (hts _ tw_152) rfl dX10_mark_12 ?_
  refine cSe (rV (As := []) ⟨hx, hb, hml, hown, hts⟩ hw (k_X1_size l (by decide) (by decide) h1_1 h2_1 hn) (cv_X1_size hts tw_252 rfl rfl ⟨Nat.le_of_ble_eq_true rfl, Nat.le_of_ble_eq_true rfl⟩) (by decide) h1_1 rfl rfl hl.1 rfl (by first | exact Nat.le_of_ble_eq_true rfl | decide) dX10_mark_15 ⟨Nat.zero_le _, Nat.zero_le _⟩) ?_
  exact re_Q hx hb hr hlocks (rfl) hw hS dX10_mark_18 (⟨rfl, hp8⟩)
set_option maxHeartbeats 4000000 in
set_option maxRecDepth 100000 in
theorem k_X10_touched (l : Launch) {G : GT} {c : Nat → va_E} {im : Bool} {iz : Int32} (o1 : c 0 = .inr (8, [.ref (gad G 1), .ref (gad G 3), .ref (gad G 5), .ref (gad G 8), .ref (gad G 9), .ref (gad G 11), .ref (gad G 16), .ref (gad G 18), .int (bi im), .ref (gad G 27), .ref (gad G 29), .int iz])) {n : Nat} {f : Nat → Int32} (h1 : c 1 = .inr (0, [.ref (gad G 2), .int (nI n)])) (h2 : c 2 = .inl (gI G, 132, .inl f)) (hn : n ≤ 12) {n1 : Nat} {f1 : Nat → Int32} (m1 : c 3 = .inr (0, [.ref (gad G 4), .int (nI n1)])) (m2 : c 4 = .inl (gI G, 132, .inl f1)) (hn1 : n1 ≤ 12) {a d : Int32} : Met l yX10_touched (wv yX10_touched cX10_touched 3 (some .int)) ({ frames := 4, cells := 0, slots := 0, locals := 96 } : Room) (va_Pc [.ref (gad G 0), .int a, .int d] (fun U => Hw G c U U.heap)) (vp_Si (fun r => r = spTouched f n f1 n1 a d)) 0 0 (fun _ => False) := by
  refine en (by decide +kernel) (by first | exact Nat.le_of_ble_eq_true rfl | decide) ?_
  intro p e s m below meth cd ls hx hb hr hml hown hts hlocks hnm hw hl
  have hl : lv_has ls 3 [(0, .ref (gad G 0)), (1, .int a), (2, .int d)] := hl
  refine lv_iload_n hx hb dX10_touched_0 rfl (lv_at hl 1 rfl) ?_
  refine cSe (rST (As := [_]) ⟨hx, hb, hml, hown, hts⟩ (k_X10_isProfile l ) (cv_X10_isProfile hts tw_276 rfl rfl ⟨Nat.le_of_ble_eq_true rfl, Nat.le_of_ble_eq_true rfl⟩) rfl hl.1 rfl (by first | exact Nat.le_of_ble_eq_true rfl | decide) dX10_touched_1 ⟨Nat.zero_le _, Nat.zero_le _⟩) ?_
  refine zb_eq (tgt := 14) hx hb dX10_touched_4 (by decide) (fun c4 => ?_) (fun c4 => ?_)
  · refine lv_bipush (v := (-2)) hx hb dX10_touched_14 (by decide) ?_
    exact re_S hx hb hr hlocks (rfl) dX10_touched_16 (by simp [spTouched, c4])
  · refine lv_iload_n hx hb dX10_touched_7 rfl (lv_at hl 2 rfl) ?_
    refine cSe (rST (As := [_]) ⟨hx, hb, hml, hown, hts⟩ (k_X10_isDay l ) (cv_X10_isDay hts tw_237 rfl rfl ⟨Nat.le_of_ble_eq_true rfl, Nat.le_of_ble_eq_true rfl⟩) rfl hl.1 rfl (by first | exact Nat.le_of_ble_eq_true rfl | decide) dX10_touched_8 ⟨Nat.zero_le _, Nat.zero_le _⟩) ?_
    refine zb_ne (tgt := 17) hx hb dX10_touched_11 (by decide) (fun c11 => ?_) (fun c11 => ?_)
    · obtain ⟨p0, hp0, rfl⟩ := isP_t c4
      refine lv_aload_n hx hb dX10_touched_17 rfl (lv_at hl 0 rfl) ?_
      refine w_get (C := RX10) (T := TX10) (N := 12) 0 hx hb hts inX10 hown hw (by decide) o1 rfl (by decide) (hts _ tw_152) rfl dX10_touched_18 ?_
      refine lv_iload_n hx hb dX10_touched_21 rfl (lv_at hl 1 rfl) ?_
      refine lv_iload_n hx hb dX10_touched_22 rfl (lv_at hl 2 rfl) ?_
      refine cSe (rV (As := [_, _]) ⟨hx, hb, hml, hown, hts⟩ hw (k_X1_total l (by decide) (by decide) h1 h2 hn hp0) (cv_X1_total hts tw_287 rfl rfl ⟨Nat.le_of_ble_eq_true rfl, Nat.le_of_ble_eq_true rfl⟩) (by decide) h1 rfl rfl hl.1 rfl (by first | exact Nat.le_of_ble_eq_true rfl | decide) dX10_touched_23 ⟨Nat.zero_le _, Nat.zero_le _⟩) ?_
      refine lv_aload_n hx hb dX10_touched_26 rfl (lv_at hl 0 rfl) ?_
      refine w_get (C := RX10) (T := TX10) (N := 12) 1 hx hb hts inX10 hown hw (by decide) o1 rfl (by decide) (hts _ tw_153) rfl dX10_touched_27 ?_
      refine lv_iload_n hx hb dX10_touched_30 rfl (lv_at hl 1 rfl) ?_
      refine lv_iload_n hx hb dX10_touched_31 rfl (lv_at hl 2 rfl) ?_
      refine cSe (rV (As := [_, _]) ⟨hx, hb, hml, hown, hts⟩ hw (k_X1_total l (by decide) (by decide) m1 m2 hn1 hp0) (cv_X1_total hts tw_287 rfl rfl ⟨Nat.le_of_ble_eq_true rfl, Nat.le_of_ble_eq_true rfl⟩) (by decide) m1 rfl rfl hl.1 rfl (by first | exact Nat.le_of_ble_eq_true rfl | decide) dX10_touched_32 ⟨Nat.zero_le _, Nat.zero_le _⟩) ?_
      refine lv_isub hx hb dX10_touched_35 ?_
      exact re_S hx hb hr hlocks (rfl) dX10_touched_36 (by simp [spTouched, c4, c11, pN_nI hp0])
    · refine lv_bipush (v := (-2)) hx hb dX10_touched_14 (by decide) ?_
      exact re_S hx hb hr hlocks (rfl) dX10_touched_16 (by simp [spTouched, c4, c11])
set_option maxHeartbeats 4000000 in
set_option maxRecDepth 100000 in
theorem k_X10_touches (l : Launch) {G : GT} {c : Nat → va_E} {im : Bool} {iz : Int32} (o1 : c 0 = .inr (8, [.ref (gad G 1), .ref (gad G 3), .ref (gad G 5), .ref (gad G 8), .ref (gad G 9), .ref (gad G 11), .ref (gad G 16), .ref (gad G 18), .int (bi im), .ref (gad G 27), .ref (gad G 29), .int iz])) {n : Nat} {f : Nat → Int32} (h1 : c 1 = .inr (0, [.ref (gad G 2), .int (nI n)])) (h2 : c 2 = .inl (gI G, 132, .inl f)) (hn : n ≤ 12) {n1 : Nat} {f1 : Nat → Int32} (m1 : c 3 = .inr (0, [.ref (gad G 4), .int (nI n1)])) (m2 : c 4 = .inl (gI G, 132, .inl f1)) (hn1 : n1 ≤ 12) {m0 : Nat} {g : Nat → Int32} (l1 : c 16 = .inr (2, [.ref (gad G 17), .int (nI m0)])) (l2 : c 17 = .inl (gI G, 100, .inl g)) (hm : m0 ≤ 100) {a d t w : Int32} : Met l yX10_touches (wv yX10_touches cX10_touches 5 (some .int)) ({ frames := 5, cells := 0, slots := 0, locals := 121 } : Room) (va_Pc [.ref (gad G 0), .int a, .int d, .int t, .int w] (fun U => Hw G c U U.heap)) (va_Qi (fun r (c9 : Nat → va_E) => r = spTouches f n f1 n1 a d t w ∧ lnE G c c9) (fun c9 t => Hw G c9 t t.heap) (gA G)) 0 0 (gA G) := by
  refine en (by decide +kernel) (by first | exact Nat.le_of_ble_eq_true rfl | decide) ?_
  intro p e s m below meth cd ls hx hb hr hml hown hts hlocks hnm hw hl
  have hl : lv_has ls 5 [(0, .ref (gad G 0)), (1, .int a), (2, .int d), (3, .int t), (4, .int w)] := hl
  have hX : Sw G s s.heap := hw.2.2.2.2.2
  have hS : va_S (gA G) s.heap s.heap [] := va_S.rf
  obtain ⟨H, hH⟩ : ∃ wz9, wz9 = s.heap := ⟨_, rfl⟩
  obtain ⟨locs, hlocs⟩ : ∃ wz9 : List Loc, wz9 = [] := ⟨_, rfl⟩
  have hw : Hw G c s H := by rw [hH]; exact hw
  have hS : va_S (gA G) s.heap H locs := by rw [hH, hlocs]; exact hS
  suffices hgo : W p l e ({ frames := 5, cells := 0, slots := 0, locals := 121 } : Room) s m (([.ref (gad G 0), .int a, .int d, .int t, .int w] : List Value).toArray) below meth cd H locs 0 0 (MQ below (va_Qi (fun r (c9 : Nat → va_E) => r = spTouches f n f1 n1 a d t w ∧ lnE G c c9) (fun c9 t => Hw G c9 t t.heap) (gA G)) ([.ref (gad G 0), .int a, .int d, .int t, .int w] : List Value).toArray s 0 0 (gA G)) (F0 m 0 ls []) by rw [hH, hlocs] at hgo; exact hgo
  refine lv_iload_n hx hb dX10_touches_0 rfl (lv_at hl 1 rfl) ?_
  refine lv_iload_n hx hb dX10_touches_1 rfl (lv_at hl 2 rfl) ?_
  refine lv_iload_n hx hb dX10_touches_2 rfl (lv_at hl 3 rfl) ?_
  refine cSe (rST (As := [_, _, _]) ⟨hx, hb, hml, hown, hts⟩ (k_X10_isAlong l ) (cv_X10_isAlong hts tw_359 rfl rfl ⟨Nat.le_of_ble_eq_true rfl, Nat.le_of_ble_eq_true rfl⟩) rfl hl.1 rfl (by first | exact Nat.le_of_ble_eq_true rfl | decide) dX10_touches_3 ⟨Nat.zero_le _, Nat.zero_le _⟩) ?_
  refine zb_ne (tgt := 12) hx hb dX10_touches_6 (by decide) (fun c6 => ?_) (fun c6 => ?_)
  · have hal := c6
    simp only [Bool.and_eq_true] at hal
    obtain ⟨⟨ha1, ha2⟩, ha3⟩ := hal
    obtain ⟨p0, hp0, rfl⟩ := isP_t ha1
    have ht := isSh_t ha3
    have hsz := sz_le ht
    refine lv_aload_n hx hb dX10_touches_12 rfl (lv_at hl 0 rfl) ?_
    refine w_get (C := RX10) (T := TX10) (N := 12) 6 hx hb hts inX10 hown hw (by decide) o1 rfl (by decide) (hts _ tw_158) rfl dX10_touches_13 ?_
    refine lv_aload_n hx hb dX10_touches_16 rfl (lv_at hl 0 rfl) ?_
    refine w_get (C := RX10) (T := TX10) (N := 12) 0 hx hb hts inX10 hown hw (by decide) o1 rfl (by decide) (hts _ tw_152) rfl dX10_touches_17 ?_
    refine lv_iload_n hx hb dX10_touches_20 rfl (lv_at hl 1 rfl) ?_
    refine lv_iload_n hx hb dX10_touches_21 rfl (lv_at hl 2 rfl) ?_
    refine lv_iload_n hx hb dX10_touches_22 rfl (lv_at hl 3 rfl) ?_
    refine cQv (rV (As := [_, _, _, _]) ⟨hx, hb, hml, hown, hts⟩ hw (k_X3_follow l l1 l2 hm h1 h2 hn hp0 ht) (cv_X3_follow hts tw_362 rfl rfl ⟨Nat.le_of_ble_eq_true rfl, Nat.le_of_ble_eq_true rfl⟩) (by decide) l1 rfl rfl hl.1 rfl (by first | exact Nat.le_of_ble_eq_true rfl | decide) dX10_touches_23 ⟨Nat.zero_le _, Nat.zero_le _⟩) hw hS (fun w1 H locs hp23 hw hS => ?_)
    have o1_1 : w1 0 = .inr (8, [.ref (gad G 1), .ref (gad G 3), .ref (gad G 5), .ref (gad G 8), .ref (gad G 9), .ref (gad G 11), .ref (gad G 16), .ref (gad G 18), .int (bi im), .ref (gad G 27), .ref (gad G 29), .int iz]) := by rw [hp23]; exact (vu_e (by first | decide | omega) (vu_e (by first | decide | omega) o1))
    have h1_1 : w1 1 = .inr (0, [.ref (gad G 2), .int (nI n)]) := by rw [hp23]; exact (vu_e (by first | decide | omega) (vu_e (by first | decide | omega) h1))
    have h2_1 : w1 2 = .inl (gI G, 132, .inl f) := by rw [hp23]; exact (vu_e (by first | decide | omega) (vu_e (by first | decide | omega) h2))
    have m1_1 : w1 3 = .inr (0, [.ref (gad G 4), .int (nI n1)]) := by rw [hp23]; exact (vu_e (by first | decide | omega) (vu_e (by first | decide | omega) m1))
    have m2_1 : w1 4 = .inl (gI G, 132, .inl f1) := by rw [hp23]; exact (vu_e (by first | decide | omega) (vu_e (by first | decide | omega) m2))
    have l1_1 : w1 16 = .inr (2, [.ref (gad G 17), .int (nI (szN t))]) := by rw [hp23]; exact vu_e (by decide) vu_s
    have l2_1 : w1 17 = .inl (gI G, 100, .inl (flF f n p0 d t g (szN t))) := by rw [hp23]; exact vu_s
    refine lv_aload_n hx hb dX10_touches_26 rfl (lv_at hl 0 rfl) ?_
    refine w_get (C := RX10) (T := TX10) (N := 12) 6 hx hb hts inX10 hown hw (by decide) o1_1 rfl (by decide) (hts _ tw_158) rfl dX10_touches_27 ?_
    refine lv_aload_n hx hb dX10_touches_30 rfl (lv_at hl 0 rfl) ?_
    refine w_get (C := RX10) (T := TX10) (N := 12) 1 hx hb hts inX10 hown hw (by decide) o1_1 rfl (by decide) (hts _ tw_153) rfl dX10_touches_31 ?_
    refine lv_iload_n hx hb dX10_touches_34 rfl (lv_at hl 1 rfl) ?_
    refine lv_iload_n hx hb dX10_touches_35 rfl (lv_at hl 2 rfl) ?_
    refine lv_iload_n hx hb dX10_touches_36 rfl (lv_at hl 3 rfl) ?_
    refine cQv (rV (As := [_, _, _, _]) ⟨hx, hb, hml, hown, hts⟩ hw (k_X3_lessen l l1_1 l2_1 hsz.1 m1_1 m2_1 hn1 hp0 ht rfl) (cv_X3_lessen hts tw_500 rfl rfl ⟨Nat.le_of_ble_eq_true rfl, Nat.le_of_ble_eq_true rfl⟩) (by decide) l1_1 rfl rfl hl.1 rfl (by first | exact Nat.le_of_ble_eq_true rfl | decide) dX10_touches_37 ⟨Nat.zero_le _, Nat.zero_le _⟩) hw hS (fun w2 H locs hp37 hw hS => ?_)
    have o1_2 : w2 0 = .inr (8, [.ref (gad G 1), .ref (gad G 3), .ref (gad G 5), .ref (gad G 8), .ref (gad G 9), .ref (gad G 11), .ref (gad G 16), .ref (gad G 18), .int (bi im), .ref (gad G 27), .ref (gad G 29), .int iz]) := by rw [hp37]; exact (vu_e (by first | decide | omega) o1_1)
    have h1_2 : w2 1 = .inr (0, [.ref (gad G 2), .int (nI n)]) := by rw [hp37]; exact (vu_e (by first | decide | omega) h1_1)
    have h2_2 : w2 2 = .inl (gI G, 132, .inl f) := by rw [hp37]; exact (vu_e (by first | decide | omega) h2_1)
    have m1_2 : w2 3 = .inr (0, [.ref (gad G 4), .int (nI n1)]) := by rw [hp37]; exact (vu_e (by first | decide | omega) m1_1)
    have m2_2 : w2 4 = .inl (gI G, 132, .inl f1) := by rw [hp37]; exact (vu_e (by first | decide | omega) m2_1)
    have l1_2 : w2 16 = .inr (2, [.ref (gad G 17), .int (nI (szN t))]) := by rw [hp37]; exact (vu_e (by first | decide | omega) l1_1)
    have l2_2 : w2 17 = .inl (gI G, 100, .inl (lsF f1 n1 p0 d t (flF f n p0 d t g (szN t)) (szN t))) := by rw [hp37]; exact vu_s
    refine lv_iload hx hb dX10_touches_40 (lv_at hl 4 rfl) ?_
    by_cases hs42 : w.toInt < 0 ∨ 3 < w.toInt
    · refine lv_tableOut (tgt := 104) hx hb dX10_touches_42 hs42 (by decide) ?_
      refine lv_bipush (v := (-2)) hx hb dX10_touches_104 (by decide) ?_
      exact re_Q hx hb hr hlocks (rfl) hw hS dX10_touches_106 (⟨by obtain ⟨y0, y1, y2, y3⟩ := sw3 hs42; simp [spTouches, ha1, ha2, ha3, y0, y1, y2, y3], szN t, _, hsz.1, by rw [hp37, hp23, up_up]⟩)
    · have hz42 : w.toInt = 0 ∨ w.toInt = 1 ∨ w.toInt = 2 ∨ w.toInt = 3 := by omega
      rcases hz42 with hz42 | hz42 | hz42 | hz42
      · refine lv_tableIn (off := 30) (tgt := 72) hx hb dX10_touches_42 (by omega) (by omega) (by rw [hz42]; rfl) (by decide) ?_
        have hz42 : w = 0 := Int32.toInt_inj.mp (hz42.trans rfl)
        refine lv_aload_n hx hb dX10_touches_72 rfl (lv_at hl 0 rfl) ?_
        refine w_get (C := RX10) (T := TX10) (N := 12) 6 hx hb hts inX10 hown hw (by decide) o1_2 rfl (by decide) (hts _ tw_158) rfl dX10_touches_73 ?_
        refine cSe (rV (As := []) ⟨hx, hb, hml, hown, hts⟩ hw (k_X3_otherThanZeroCount l l1_2 l2_2 hsz.1) (cv_X3_otherThanZeroCount hts tw_504 rfl rfl ⟨Nat.le_of_ble_eq_true rfl, Nat.le_of_ble_eq_true rfl⟩) (by decide) l1_2 rfl rfl hl.1 rfl (by first | exact Nat.le_of_ble_eq_true rfl | decide) dX10_touches_76 ⟨Nat.zero_le _, Nat.zero_le _⟩) ?_
        exact re_Q hx hb hr hlocks (rfl) hw hS dX10_touches_79 (⟨by rw [cntU_congr (P' := fun v => decide (tg f n f1 n1 p0 d t v ≠ 0)) (fun v hv => by rw [lsF_tg v hv]) (szN t) (Nat.le_refl _)]; simp [spTouches, ha1, ha2, ha3, hz42, pN_nI hp0], szN t, _, hsz.1, by rw [hp37, hp23, up_up]⟩)
      · refine lv_tableIn (off := 38) (tgt := 80) hx hb dX10_touches_42 (by omega) (by omega) (by rw [hz42]; rfl) (by decide) ?_
        have hz42 : w = 1 := Int32.toInt_inj.mp (hz42.trans rfl)
        refine lv_aload_n hx hb dX10_touches_80 rfl (lv_at hl 0 rfl) ?_
        refine w_get (C := RX10) (T := TX10) (N := 12) 6 hx hb hts inX10 hown hw (by decide) o1_2 rfl (by decide) (hts _ tw_158) rfl dX10_touches_81 ?_
        refine cSe (rV (As := []) ⟨hx, hb, hml, hown, hts⟩ hw (k_X3_firstOtherThanZero l l1_2 l2_2 hsz.1) (cv_X3_firstOtherThanZero hts tw_508 rfl rfl ⟨Nat.le_of_ble_eq_true rfl, Nat.le_of_ble_eq_true rfl⟩) (by decide) l1_2 rfl rfl hl.1 rfl (by first | exact Nat.le_of_ble_eq_true rfl | decide) dX10_touches_84 ⟨Nat.zero_le _, Nat.zero_le _⟩) ?_
        exact re_Q hx hb hr hlocks (rfl) hw hS dX10_touches_87 (⟨by rw [fstU_congr (P' := fun v => decide (tg f n f1 n1 p0 d t v ≠ 0)) (fun v hv => by rw [lsF_tg v hv]) (szN t) (Nat.le_refl _)]; simp [spTouches, ha1, ha2, ha3, hz42, pN_nI hp0], szN t, _, hsz.1, by rw [hp37, hp23, up_up]⟩)
      · refine lv_tableIn (off := 46) (tgt := 88) hx hb dX10_touches_42 (by omega) (by omega) (by rw [hz42]; rfl) (by decide) ?_
        have hz42 : w = 2 := Int32.toInt_inj.mp (hz42.trans rfl)
        refine lv_aload_n hx hb dX10_touches_88 rfl (lv_at hl 0 rfl) ?_
        refine w_get (C := RX10) (T := TX10) (N := 12) 6 hx hb hts inX10 hown hw (by decide) o1_2 rfl (by decide) (hts _ tw_158) rfl dX10_touches_89 ?_
        refine cSe (rV (As := []) ⟨hx, hb, hml, hown, hts⟩ hw (k_X3_farthestFromZero l l1_2 l2_2 hsz.1) (cv_X3_farthestFromZero hts tw_512 rfl rfl ⟨Nat.le_of_ble_eq_true rfl, Nat.le_of_ble_eq_true rfl⟩) (by decide) l1_2 rfl rfl hl.1 rfl (by first | exact Nat.le_of_ble_eq_true rfl | decide) dX10_touches_92 ⟨Nat.zero_le _, Nat.zero_le _⟩) ?_
        exact re_Q hx hb hr hlocks (rfl) hw hS dX10_touches_95 (⟨by rw [far_congr (lsF_tg (f := f) (f1 := f1) (n := n) (n1 := n1) (p := p0) (d := d) (t := t) (g := g) (m := szN t)) (szN t) (Nat.le_refl _)]; simp [spTouches, ha1, ha2, ha3, hz42, pN_nI hp0], szN t, _, hsz.1, by rw [hp37, hp23, up_up]⟩)
      · refine lv_tableIn (off := 54) (tgt := 96) hx hb dX10_touches_42 (by omega) (by omega) (by rw [hz42]; rfl) (by decide) ?_
        have hz42 : w = 3 := Int32.toInt_inj.mp (hz42.trans rfl)
        refine lv_aload_n hx hb dX10_touches_96 rfl (lv_at hl 0 rfl) ?_
        refine w_get (C := RX10) (T := TX10) (N := 12) 6 hx hb hts inX10 hown hw (by decide) o1_2 rfl (by decide) (hts _ tw_158) rfl dX10_touches_97 ?_
        refine cSe (rV (As := []) ⟨hx, hb, hml, hown, hts⟩ hw (k_X3_belowZeroCount l l1_2 l2_2 hsz.1) (cv_X3_belowZeroCount hts tw_519 rfl rfl ⟨Nat.le_of_ble_eq_true rfl, Nat.le_of_ble_eq_true rfl⟩) (by decide) l1_2 rfl rfl hl.1 rfl (by first | exact Nat.le_of_ble_eq_true rfl | decide) dX10_touches_100 ⟨Nat.zero_le _, Nat.zero_le _⟩) ?_
        exact re_Q hx hb hr hlocks (rfl) hw hS dX10_touches_103 (⟨by rw [cntU_congr (P' := fun v => decide (tg f n f1 n1 p0 d t v < 0)) (fun v hv => by rw [lsF_tg v hv]) (szN t) (Nat.le_refl _)]; simp [spTouches, ha1, ha2, ha3, hz42, pN_nI hp0], szN t, _, hsz.1, by rw [hp37, hp23, up_up]⟩)
  · refine lv_bipush (v := (-2)) hx hb dX10_touches_9 (by decide) ?_
    exact re_Q hx hb hr hlocks (rfl) hw hS dX10_touches_11 (⟨by simp [spTouches, c6], lnE_id l1 l2 hm⟩)
set_option maxHeartbeats 4000000 in
set_option maxRecDepth 100000 in
theorem k_X10_drawn (l : Launch) {G : GT} {c : Nat → va_E} {im : Bool} {iz : Int32} (o1 : c 0 = .inr (8, [.ref (gad G 1), .ref (gad G 3), .ref (gad G 5), .ref (gad G 8), .ref (gad G 9), .ref (gad G 11), .ref (gad G 16), .ref (gad G 18), .int (bi im), .ref (gad G 27), .ref (gad G 29), .int iz])) {n : Nat} {f : Nat → Int32} (h1 : c 1 = .inr (0, [.ref (gad G 2), .int (nI n)])) (h2 : c 2 = .inl (gI G, 132, .inl f)) (hn : n ≤ 12) {n1 : Nat} {f1 : Nat → Int32} (m1 : c 3 = .inr (0, [.ref (gad G 4), .int (nI n1)])) (m2 : c 4 = .inl (gI G, 132, .inl f1)) (hn1 : n1 ≤ 12) {z : Int32} (z1 : c 8 = .inr (1, [.int z])) {d w : Int32} : Met l yX10_drawn (wv yX10_drawn cX10_drawn 6 (some .int)) ({ frames := 4, cells := 0, slots := 0, locals := 96 } : Room) (va_Pc [.ref (gad G 0), .int d, .int w] (fun U => Hw G c U U.heap)) (va_Qi (fun r (c9 : Nat → va_E) => ((isDy d && wn w 1 50) = false ∧ r = -2 ∧ c9 = c) ∨ (∃ j9 : Nat, 1 ≤ j9 ∧ j9 ≤ 50 ∧ w = nI j9 ∧ isDy d = true ∧ r = nI (drw (dP f n f1 n1 d) z j9).1 ∧ c9 = va_up c 8 (.inr (1, [.int (drw (dP f n f1 n1 d) z j9).2])))) (fun c9 t => Hw G c9 t t.heap) (gA G)) 0 0 (gA G) := by
  refine en (by decide +kernel) (by first | exact Nat.le_of_ble_eq_true rfl | decide) ?_
  intro p e s m below meth cd ls hx hb hr hml hown hts hlocks hnm hw hl
  have hl : lv_has ls 6 [(0, .ref (gad G 0)), (1, .int d), (2, .int w)] := hl
  have hX : Sw G s s.heap := hw.2.2.2.2.2
  have hS : va_S (gA G) s.heap s.heap [] := va_S.rf
  obtain ⟨H, hH⟩ : ∃ wz9, wz9 = s.heap := ⟨_, rfl⟩
  obtain ⟨locs, hlocs⟩ : ∃ wz9 : List Loc, wz9 = [] := ⟨_, rfl⟩
  have hw : Hw G c s H := by rw [hH]; exact hw
  have hS : va_S (gA G) s.heap H locs := by rw [hH, hlocs]; exact hS
  suffices hgo : W p l e ({ frames := 4, cells := 0, slots := 0, locals := 96 } : Room) s m (([.ref (gad G 0), .int d, .int w] : List Value).toArray) below meth cd H locs 0 0 (MQ below (va_Qi (fun r (c9 : Nat → va_E) => ((isDy d && wn w 1 50) = false ∧ r = -2 ∧ c9 = c) ∨ (∃ j9 : Nat, 1 ≤ j9 ∧ j9 ≤ 50 ∧ w = nI j9 ∧ isDy d = true ∧ r = nI (drw (dP f n f1 n1 d) z j9).1 ∧ c9 = va_up c 8 (.inr (1, [.int (drw (dP f n f1 n1 d) z j9).2])))) (fun c9 t => Hw G c9 t t.heap) (gA G)) ([.ref (gad G 0), .int d, .int w] : List Value).toArray s 0 0 (gA G)) (F0 m 0 ls []) by rw [hH, hlocs] at hgo; exact hgo
  refine lv_iload_n hx hb dX10_drawn_0 rfl (lv_at hl 1 rfl) ?_
  refine cSe (rST (As := [_]) ⟨hx, hb, hml, hown, hts⟩ (k_X10_isDay l ) (cv_X10_isDay hts tw_237 rfl rfl ⟨Nat.le_of_ble_eq_true rfl, Nat.le_of_ble_eq_true rfl⟩) rfl hl.1 rfl (by first | exact Nat.le_of_ble_eq_true rfl | decide) dX10_drawn_1 ⟨Nat.zero_le _, Nat.zero_le _⟩) ?_
  refine zb_eq (tgt := 17) hx hb dX10_drawn_4 (by decide) (fun c4 => ?_) (fun c4 => ?_)
  · refine lv_bipush (v := (-2)) hx hb dX10_drawn_17 (by decide) ?_
    exact re_Q hx hb hr hlocks (rfl) hw hS dX10_drawn_19 (Or.inl ⟨by simp [c4], rfl, rfl⟩)
  · refine lv_iload_n hx hb dX10_drawn_7 rfl (lv_at hl 2 rfl) ?_
    refine lv_iconst (v := 1) hx hb dX10_drawn_8 (by decide) ?_
    refine lv_bipush (v := 50) hx hb dX10_drawn_9 (by decide) ?_
    refine cSe (rST (As := [_, _, _]) ⟨hx, hb, hml, hown, hts⟩ (k_X10_within l ) (cv_X10_within hts tw_209 rfl rfl ⟨Nat.le_of_ble_eq_true rfl, Nat.le_of_ble_eq_true rfl⟩) rfl hl.1 rfl (by first | exact Nat.le_of_ble_eq_true rfl | decide) dX10_drawn_11 ⟨Nat.zero_le _, Nat.zero_le _⟩) ?_
    refine zb_ne (tgt := 20) hx hb dX10_drawn_14 (by decide) (fun c14 => ?_) (fun c14 => ?_)
    · obtain ⟨k, hk1, hk2, rfl⟩ := wn_nI (a := 1) (b := 50) (by decide) (by decide) c14
      refine lv_iconst (v := 0) hx hb dX10_drawn_20 (by decide) ?_
      refine lv_istore_n (lv' := [(3, _), (0, _), (1, _), (2, _)]) hx hb dX10_drawn_21 rfl hl (by decide) rfl (fun ls hl => ?_)
      refine lv_iconst (v := 0) hx hb dX10_drawn_22 (by decide) ?_
      refine lv_istore (lv' := [(4, _), (3, _), (0, _), (1, _), (2, _)]) hx hb dX10_drawn_23 hl (by decide) rfl (fun ls hl => ?_)
      have L25 : ∀ (N : Nat) (i : Nat), (i + N = k) → ∀ (c0 : Nat → va_E) (H : Heap) (locs : List Loc), (c0 = va_up c 8 (.inr (1, [.int (drw (dP f n f1 n1 d) z i).2]))) → Hw G c0 s H → va_S (gA G) s.heap H locs → ∀ ls : Array Slot, lv_has ls 6 [(4, .int (nI i)), (3, .int (nI (drw (dP f n f1 n1 d) z i).1)), (2, .int (nI k)), (1, .int d), (0, .ref (gad G 0))] → W p l e ({ frames := 4, cells := 0, slots := 0, locals := 96 } : Room) s m (([.ref (gad G 0), .int d, .int (nI k)] : List Value).toArray) below meth cd H locs 0 0 (MQ below (va_Qi (fun r (c9 : Nat → va_E) => ((isDy d && wn (nI k) 1 50) = false ∧ r = -2 ∧ c9 = c) ∨ (∃ j9 : Nat, 1 ≤ j9 ∧ j9 ≤ 50 ∧ (nI k) = nI j9 ∧ isDy d = true ∧ r = nI (drw (dP f n f1 n1 d) z j9).1 ∧ c9 = va_up c 8 (.inr (1, [.int (drw (dP f n f1 n1 d) z j9).2])))) (fun c9 t => Hw G c9 t t.heap) (gA G)) ([.ref (gad G 0), .int d, .int (nI k)] : List Value).toArray s 0 0 (gA G)) (F0 m 25 ls []) := by
        intro N
        induction N with
        | zero =>
          intro i  hN c0 H locs e0 hw hS ls hl
          have hik : i = k := by omega
          refine lv_iload hx hb dX10_drawn_25 (lv_at hl 0 rfl) ?_
          refine lv_iload_n hx hb dX10_drawn_27 rfl (lv_at hl 2 rfl) ?_
          refine lv_icmp_ge (tgt := 72) hx hb dX10_drawn_28 (by decide) (fun c28 => ?_) (fun q => absurd (nI_le (by omega) (by omega)) q)
          refine lv_iload_n hx hb dX10_drawn_72 rfl (lv_at hl 1 rfl) ?_
          exact re_Q hx hb hr hlocks (rfl) hw hS dX10_drawn_73 (Or.inr ⟨k, hk1, hk2, rfl, c4, by rw [hik], by rw [e0, hik]⟩)
        | succ N ih =>
          intro i  hN c0 H locs e0 hw hS ls hl
          have o1 : c0 0 = .inr (8, [.ref (gad G 1), .ref (gad G 3), .ref (gad G 5), .ref (gad G 8), .ref (gad G 9), .ref (gad G 11), .ref (gad G 16), .ref (gad G 18), .int (bi im), .ref (gad G 27), .ref (gad G 29), .int iz]) := by rw [e0]; exact vu_e (by decide) o1
          have h1 : c0 1 = .inr (0, [.ref (gad G 2), .int (nI n)]) := by rw [e0]; exact vu_e (by decide) h1
          have h2 : c0 2 = .inl (gI G, 132, .inl f) := by rw [e0]; exact vu_e (by decide) h2
          have m1 : c0 3 = .inr (0, [.ref (gad G 4), .int (nI n1)]) := by rw [e0]; exact vu_e (by decide) m1
          have m2 : c0 4 = .inl (gI G, 132, .inl f1) := by rw [e0]; exact vu_e (by decide) m2
          have z1 : c0 8 = .inr (1, [.int (drw (dP f n f1 n1 d) z i).2]) := by rw [e0]; exact vu_s
          refine lv_iload hx hb dX10_drawn_25 (lv_at hl 0 rfl) ?_
          refine lv_iload_n hx hb dX10_drawn_27 rfl (lv_at hl 2 rfl) ?_
          refine lv_icmp_ge (tgt := 72) hx hb dX10_drawn_28 (by decide) (fun q => absurd q (nI_ge (by omega) (by omega))) (fun c28 => ?_)
          refine lv_aload_n hx hb dX10_drawn_31 rfl (lv_at hl 4 rfl) ?_
          refine w_get (C := RX10) (T := TX10) (N := 12) 3 hx hb hts inX10 hown hw (by decide) o1 rfl (by decide) (hts _ tw_155) rfl dX10_drawn_32 ?_
          refine cQi (rV (As := []) ⟨hx, hb, hml, hown, hts⟩ hw (k_X2_nextProfile l z1) (cv_X2_nextProfile hts tw_457 rfl rfl ⟨Nat.le_of_ble_eq_true rfl, Nat.le_of_ble_eq_true rfl⟩) (by decide) z1 rfl rfl hl.1 rfl (by first | exact Nat.le_of_ble_eq_true rfl | decide) dX10_drawn_35 ⟨Nat.zero_le _, Nat.zero_le _⟩) hw hS (fun r35 w1 H locs hp35 hw hS => ?_)
          obtain ⟨er35, ec35⟩ := hp35
          subst er35
          have o1_1 : w1 0 = .inr (8, [.ref (gad G 1), .ref (gad G 3), .ref (gad G 5), .ref (gad G 8), .ref (gad G 9), .ref (gad G 11), .ref (gad G 16), .ref (gad G 18), .int (bi im), .ref (gad G 27), .ref (gad G 29), .int iz]) := by rw [ec35]; exact (vu_e (by first | decide | omega) o1)
          have h1_1 : w1 1 = .inr (0, [.ref (gad G 2), .int (nI n)]) := by rw [ec35]; exact (vu_e (by first | decide | omega) h1)
          have h2_1 : w1 2 = .inl (gI G, 132, .inl f) := by rw [ec35]; exact (vu_e (by first | decide | omega) h2)
          have m1_1 : w1 3 = .inr (0, [.ref (gad G 4), .int (nI n1)]) := by rw [ec35]; exact (vu_e (by first | decide | omega) m1)
          have m2_1 : w1 4 = .inl (gI G, 132, .inl f1) := by rw [ec35]; exact (vu_e (by first | decide | omega) m2)
          have z1_1 : w1 8 = .inr (1, [.int (zn5 (drw (dP f n f1 n1 d) z i).2)]) := by rw [ec35]; exact vu_s
          refine lv_istore (lv' := [(5, _), (4, _), (3, _), (2, _), (1, _), (0, _)]) hx hb dX10_drawn_38 hl (by decide) rfl (fun ls hl => ?_)
          refine lv_aload_n hx hb dX10_drawn_40 rfl (lv_at hl 5 rfl) ?_
          refine w_get (C := RX10) (T := TX10) (N := 12) 0 hx hb hts inX10 hown hw (by decide) o1_1 rfl (by decide) (hts _ tw_152) rfl dX10_drawn_41 ?_
          refine lv_iload hx hb dX10_drawn_44 (lv_at hl 0 rfl) ?_
          refine lv_iload_n hx hb dX10_drawn_46 rfl (lv_at hl 4 rfl) ?_
          refine cSe (rV (As := [_, _]) ⟨hx, hb, hml, hown, hts⟩ hw (k_X1_total l (by decide) (by decide) h1_1 h2_1 hn (zp_lt _)) (cv_X1_total hts tw_287 rfl rfl ⟨Nat.le_of_ble_eq_true rfl, Nat.le_of_ble_eq_true rfl⟩) (by decide) h1_1 rfl rfl hl.1 rfl (by first | exact Nat.le_of_ble_eq_true rfl | decide) dX10_drawn_47 ⟨Nat.zero_le _, Nat.zero_le _⟩) ?_
          refine lv_aload_n hx hb dX10_drawn_50 rfl (lv_at hl 5 rfl) ?_
          refine w_get (C := RX10) (T := TX10) (N := 12) 1 hx hb hts inX10 hown hw (by decide) o1_1 rfl (by decide) (hts _ tw_153) rfl dX10_drawn_51 ?_
          refine lv_iload hx hb dX10_drawn_54 (lv_at hl 0 rfl) ?_
          refine lv_iload_n hx hb dX10_drawn_56 rfl (lv_at hl 4 rfl) ?_
          refine cSe (rV (As := [_, _]) ⟨hx, hb, hml, hown, hts⟩ hw (k_X1_total l (by decide) (by decide) m1_1 m2_1 hn1 (zp_lt _)) (cv_X1_total hts tw_287 rfl rfl ⟨Nat.le_of_ble_eq_true rfl, Nat.le_of_ble_eq_true rfl⟩) (by decide) m1_1 rfl rfl hl.1 rfl (by first | exact Nat.le_of_ble_eq_true rfl | decide) dX10_drawn_57 ⟨Nat.zero_le _, Nat.zero_le _⟩) ?_
          refine lv_icmp_eq (tgt := 66) hx hb dX10_drawn_60 (by decide) (fun c60 => ?_) (fun c60 => ?_)
          · refine lv_iinc (v := nI (i + 1)) (lv' := [(4, _), (5, _), (3, _), (2, _), (1, _), (0, _)]) hx hb dX10_drawn_66 hl (k := 1) rfl (inc1 i) (by decide) rfl (fun ls hl => ?_)
            refine lv_goto (tgt := 25) hx hb dX10_drawn_69 (by decide) ?_
            have e9 : (drw (dP f n f1 n1 d) z (i + 1)).1 = (drw (dP f n f1 n1 d) z i).1 := by rw [drw]; simp [dP, c60]
            exact ih (i + 1) (by omega) _ H locs (by rw [ec35, e0, up_up, drw]) hw hS ls (by rw [e9]; exact lv_sub hl [0, 2, 3, 4, 5] rfl)
          · skip
            refine lv_iinc (v := nI (drw (dP f n f1 n1 d) z (i + 1)).1) (lv' := [(3, _), (5, _), (4, _), (2, _), (1, _), (0, _)]) hx hb dX10_drawn_63 hl (k := 2) rfl (by rw [drw]; simp [dP, c60]; exact inc1 _) (by decide) rfl (fun ls hl => ?_)
            refine lv_iinc (v := nI (i + 1)) (lv' := [(4, _), (3, _), (5, _), (2, _), (1, _), (0, _)]) hx hb dX10_drawn_66 hl (k := 2) rfl (inc1 i) (by decide) rfl (fun ls hl => ?_)
            refine lv_goto (tgt := 25) hx hb dX10_drawn_69 (by decide) ?_
            exact ih (i + 1) (by omega) _ H locs (by rw [ec35, e0, up_up, drw]) hw hS ls (by exact lv_sub hl [0, 1, 3, 4, 5] rfl)
      exact L25 k 0 (by omega) _ H locs (up_id z1).symm hw hS ls (lv_sub hl [0, 1, 4, 3, 2] rfl)
    · refine lv_bipush (v := (-2)) hx hb dX10_drawn_17 (by decide) ?_
      exact re_Q hx hb hr hlocks (rfl) hw hS dX10_drawn_19 (Or.inl ⟨by simp [c4, c14], rfl, rfl⟩)
set_option maxHeartbeats 4000000 in
set_option maxRecDepth 100000 in
theorem k_X10_file (l : Launch) {G : GT} {c : Nat → va_E} {im : Bool} {iz : Int32} (o1 : c 0 = .inr (8, [.ref (gad G 1), .ref (gad G 3), .ref (gad G 5), .ref (gad G 8), .ref (gad G 9), .ref (gad G 11), .ref (gad G 16), .ref (gad G 18), .int (bi im), .ref (gad G 27), .ref (gad G 29), .int iz])) {n : Nat} {f : Nat → Int32} (h1 : c 1 = .inr (0, [.ref (gad G 2), .int (nI n)])) (h2 : c 2 = .inl (gI G, 132, .inl f)) (hn : n ≤ 12) {rn : Nat} {rf rt : Nat → Int32} (r1 : c 5 = .inr (4, [.ref (gad G 6), .ref (gad G 7), .int (nI rn)])) (r2 : c 6 = .inl (gI G, 128, .inl rf)) (r3 : c 7 = .inl (gI G, 16, .inl rt)) (hrn : rn ≤ 16) {x : Int32} : Met l yX10_file (wv yX10_file cX10_file 2 (some .int)) ({ frames := 4, cells := 0, slots := 0, locals := 93 } : Room) (va_Pc [.ref (gad G 0), .int x] (fun U => Hw G c U U.heap)) (va_Qi (fun r (c9 : Nat → va_E) => (hasN n x = false ∧ r = -2 ∧ c9 = c) ∨ (∃ a, a < n ∧ x = nI a ∧ ((rfi rf f rn a = -1 ∧ rn = 16 ∧ r = -4 ∧ c9 = c) ∨ (rfi rf f rn a = -1 ∧ rn < 16 ∧ r = nI rn ∧ c9 = va_up (va_up (va_up c 5 (.inr (4, [.ref (gad G 6), .ref (gad G 7), .int (nI (rn + 1))]))) 6 (.inl (gI G, 128, .inl (cpF rf f rn a 8)))) 7 (.inl (gI G, 16, .inl (upd rt rn 1)))) ∨ (∃ q, q < rn ∧ rfi rf f rn a = nI q ∧ r = nI q ∧ c9 = va_up c 7 (.inl (gI G, 16, .inl (upd rt q (rt q + 1)))))))) (fun c9 t => Hw G c9 t t.heap) (gA G)) 0 0 (gA G) := by
  refine en (by decide +kernel) (by first | exact Nat.le_of_ble_eq_true rfl | decide) ?_
  intro p e s m below meth cd ls hx hb hr hml hown hts hlocks hnm hw hl
  have hl : lv_has ls 2 [(0, .ref (gad G 0)), (1, .int x)] := hl
  have hX : Sw G s s.heap := hw.2.2.2.2.2
  have hS : va_S (gA G) s.heap s.heap [] := va_S.rf
  obtain ⟨H, hH⟩ : ∃ wz9, wz9 = s.heap := ⟨_, rfl⟩
  obtain ⟨locs, hlocs⟩ : ∃ wz9 : List Loc, wz9 = [] := ⟨_, rfl⟩
  have hw : Hw G c s H := by rw [hH]; exact hw
  have hS : va_S (gA G) s.heap H locs := by rw [hH, hlocs]; exact hS
  suffices hgo : W p l e ({ frames := 4, cells := 0, slots := 0, locals := 93 } : Room) s m (([.ref (gad G 0), .int x] : List Value).toArray) below meth cd H locs 0 0 (MQ below (va_Qi (fun r (c9 : Nat → va_E) => (hasN n x = false ∧ r = -2 ∧ c9 = c) ∨ (∃ a, a < n ∧ x = nI a ∧ ((rfi rf f rn a = -1 ∧ rn = 16 ∧ r = -4 ∧ c9 = c) ∨ (rfi rf f rn a = -1 ∧ rn < 16 ∧ r = nI rn ∧ c9 = va_up (va_up (va_up c 5 (.inr (4, [.ref (gad G 6), .ref (gad G 7), .int (nI (rn + 1))]))) 6 (.inl (gI G, 128, .inl (cpF rf f rn a 8)))) 7 (.inl (gI G, 16, .inl (upd rt rn 1)))) ∨ (∃ q, q < rn ∧ rfi rf f rn a = nI q ∧ r = nI q ∧ c9 = va_up c 7 (.inl (gI G, 16, .inl (upd rt q (rt q + 1)))))))) (fun c9 t => Hw G c9 t t.heap) (gA G)) ([.ref (gad G 0), .int x] : List Value).toArray s 0 0 (gA G)) (F0 m 0 ls []) by rw [hH, hlocs] at hgo; exact hgo
  refine lv_aload_n hx hb dX10_file_0 rfl (lv_at hl 0 rfl) ?_
  refine w_get (C := RX10) (T := TX10) (N := 12) 0 hx hb hts inX10 hown hw (by decide) o1 rfl (by decide) (hts _ tw_152) rfl dX10_file_1 ?_
  refine lv_iload_n hx hb dX10_file_4 rfl (lv_at hl 1 rfl) ?_
  refine cSe (rV (As := [_]) ⟨hx, hb, hml, hown, hts⟩ hw (k_X1_has l (by decide) (by decide) h1 h2 hn) (cv_X1_has hts tw_205 rfl rfl ⟨Nat.le_of_ble_eq_true rfl, Nat.le_of_ble_eq_true rfl⟩) (by decide) h1 rfl rfl hl.1 rfl (by first | exact Nat.le_of_ble_eq_true rfl | decide) dX10_file_5 ⟨Nat.zero_le _, Nat.zero_le _⟩) ?_
  refine zb_ne (tgt := 14) hx hb dX10_file_8 (by decide) (fun c8 => ?_) (fun c8 => ?_)
  · obtain ⟨a, ha, rfl⟩ := hasN_t hn c8
    refine lv_aload_n hx hb dX10_file_14 rfl (lv_at hl 0 rfl) ?_
    refine w_get (C := RX10) (T := TX10) (N := 12) 2 hx hb hts inX10 hown hw (by decide) o1 rfl (by decide) (hts _ tw_154) rfl dX10_file_15 ?_
    refine lv_aload_n hx hb dX10_file_18 rfl (lv_at hl 0 rfl) ?_
    refine w_get (C := RX10) (T := TX10) (N := 12) 0 hx hb hts inX10 hown hw (by decide) o1 rfl (by decide) (hts _ tw_152) rfl dX10_file_19 ?_
    refine lv_iload_n hx hb dX10_file_22 rfl (lv_at hl 1 rfl) ?_
    refine cQi (rV (As := [_, _]) ⟨hx, hb, hml, hown, hts⟩ hw (k_X5_keep l r1 r2 r3 hrn h1 h2 hn ha) (cv_X5_keep hts tw_531 rfl rfl ⟨Nat.le_of_ble_eq_true rfl, Nat.le_of_ble_eq_true rfl⟩) (by decide) r1 rfl rfl hl.1 rfl (by first | exact Nat.le_of_ble_eq_true rfl | decide) dX10_file_23 ⟨Nat.zero_le _, Nat.zero_le _⟩) hw hS (fun r23 w1 H locs hp23 hw hS => ?_)
    exact re_Q hx hb hr hlocks (rfl) hw hS dX10_file_26 (Or.inr ⟨a, ha, rfl, hp23⟩)
  · refine lv_bipush (v := (-2)) hx hb dX10_file_11 (by decide) ?_
    exact re_Q hx hb hr hlocks (rfl) hw hS dX10_file_13 (Or.inl ⟨c8, rfl, rfl⟩)
set_option maxHeartbeats 4000000 in
set_option maxRecDepth 100000 in
theorem k_X10_filed (l : Launch) {G : GT} {c : Nat → va_E} {im : Bool} {iz : Int32} (o1 : c 0 = .inr (8, [.ref (gad G 1), .ref (gad G 3), .ref (gad G 5), .ref (gad G 8), .ref (gad G 9), .ref (gad G 11), .ref (gad G 16), .ref (gad G 18), .int (bi im), .ref (gad G 27), .ref (gad G 29), .int iz])) {n : Nat} {f : Nat → Int32} (h1 : c 1 = .inr (0, [.ref (gad G 2), .int (nI n)])) (h2 : c 2 = .inl (gI G, 132, .inl f)) (hn : n ≤ 12) {rn : Nat} {rf rt : Nat → Int32} (r1 : c 5 = .inr (4, [.ref (gad G 6), .ref (gad G 7), .int (nI rn)])) (r2 : c 6 = .inl (gI G, 128, .inl rf)) (r3 : c 7 = .inl (gI G, 16, .inl rt)) (hrn : rn ≤ 16) {x w : Int32} : Met l yX10_filed (wv yX10_filed cX10_filed 4 (some .int)) ({ frames := 3, cells := 0, slots := 0, locals := 69 } : Room) (va_Pc [.ref (gad G 0), .int x, .int w] (fun U => Hw G c U U.heap)) (vp_Si (fun r => ((hasN n x && wn w 0 1) = false ∧ r = -2) ∨ (∃ a, a < n ∧ x = nI a ∧ wn w 0 1 = true ∧ r = if w = 0 then rfi rf f rn a else tat rt rn (rfi rf f rn a)))) 0 0 (fun _ => False) := by
  refine en (by decide +kernel) (by first | exact Nat.le_of_ble_eq_true rfl | decide) ?_
  intro p e s m below meth cd ls hx hb hr hml hown hts hlocks hnm hw hl
  have hl : lv_has ls 4 [(0, .ref (gad G 0)), (1, .int x), (2, .int w)] := hl
  refine lv_aload_n hx hb dX10_filed_0 rfl (lv_at hl 0 rfl) ?_
  refine w_get (C := RX10) (T := TX10) (N := 12) 0 hx hb hts inX10 hown hw (by decide) o1 rfl (by decide) (hts _ tw_152) rfl dX10_filed_1 ?_
  refine lv_iload_n hx hb dX10_filed_4 rfl (lv_at hl 1 rfl) ?_
  refine cSe (rV (As := [_]) ⟨hx, hb, hml, hown, hts⟩ hw (k_X1_has l (by decide) (by decide) h1 h2 hn) (cv_X1_has hts tw_205 rfl rfl ⟨Nat.le_of_ble_eq_true rfl, Nat.le_of_ble_eq_true rfl⟩) (by decide) h1 rfl rfl hl.1 rfl (by first | exact Nat.le_of_ble_eq_true rfl | decide) dX10_filed_5 ⟨Nat.zero_le _, Nat.zero_le _⟩) ?_
  refine zb_eq (tgt := 20) hx hb dX10_filed_8 (by decide) (fun c8 => ?_) (fun c8 => ?_)
  · refine lv_bipush (v := (-2)) hx hb dX10_filed_20 (by decide) ?_
    exact re_S hx hb hr hlocks (rfl) dX10_filed_22 (Or.inl ⟨by simp [c8], rfl⟩)
  · refine lv_iload_n hx hb dX10_filed_11 rfl (lv_at hl 2 rfl) ?_
    refine lv_iconst (v := 0) hx hb dX10_filed_12 (by decide) ?_
    refine lv_iconst (v := 1) hx hb dX10_filed_13 (by decide) ?_
    refine cSe (rST (As := [_, _, _]) ⟨hx, hb, hml, hown, hts⟩ (k_X10_within l ) (cv_X10_within hts tw_209 rfl rfl ⟨Nat.le_of_ble_eq_true rfl, Nat.le_of_ble_eq_true rfl⟩) rfl hl.1 rfl (by first | exact Nat.le_of_ble_eq_true rfl | decide) dX10_filed_14 ⟨Nat.zero_le _, Nat.zero_le _⟩) ?_
    refine zb_ne (tgt := 23) hx hb dX10_filed_17 (by decide) (fun c17 => ?_) (fun c17 => ?_)
    · obtain ⟨a, ha, rfl⟩ := hasN_t hn c8
      refine lv_aload_n hx hb dX10_filed_23 rfl (lv_at hl 0 rfl) ?_
      refine w_get (C := RX10) (T := TX10) (N := 12) 2 hx hb hts inX10 hown hw (by decide) o1 rfl (by decide) (hts _ tw_154) rfl dX10_filed_24 ?_
      refine lv_aload_n hx hb dX10_filed_27 rfl (lv_at hl 0 rfl) ?_
      refine w_get (C := RX10) (T := TX10) (N := 12) 0 hx hb hts inX10 hown hw (by decide) o1 rfl (by decide) (hts _ tw_152) rfl dX10_filed_28 ?_
      refine lv_iload_n hx hb dX10_filed_31 rfl (lv_at hl 1 rfl) ?_
      refine cSe (rV (As := [_, _]) ⟨hx, hb, hml, hown, hts⟩ hw (k_X5_find l r1 r2 r3 hrn h1 h2 hn ha) (cv_X5_find hts tw_548 rfl rfl ⟨Nat.le_of_ble_eq_true rfl, Nat.le_of_ble_eq_true rfl⟩) (by decide) r1 rfl rfl hl.1 rfl (by first | exact Nat.le_of_ble_eq_true rfl | decide) dX10_filed_32 ⟨Nat.zero_le _, Nat.zero_le _⟩) ?_
      refine lv_istore_n (lv' := [(3, _), (0, _), (1, _), (2, _)]) hx hb dX10_filed_35 rfl hl (by decide) rfl (fun ls hl => ?_)
      refine lv_iload_n hx hb dX10_filed_36 rfl (lv_at hl 3 rfl) ?_
      refine lv_if_ne (tgt := 44) hx hb dX10_filed_37 (by decide) (fun c37 => ?_) (fun c37 => ?_)
      · refine lv_aload_n hx hb dX10_filed_44 rfl (lv_at hl 1 rfl) ?_
        refine w_get (C := RX10) (T := TX10) (N := 12) 2 hx hb hts inX10 hown hw (by decide) o1 rfl (by decide) (hts _ tw_154) rfl dX10_filed_45 ?_
        refine lv_iload_n hx hb dX10_filed_48 rfl (lv_at hl 0 rfl) ?_
        refine cSe (rV (As := [_]) ⟨hx, hb, hml, hown, hts⟩ hw (k_X5_timesAt l r1 r2 r3 hrn) (cv_X5_timesAt hts tw_549 rfl rfl ⟨Nat.le_of_ble_eq_true rfl, Nat.le_of_ble_eq_true rfl⟩) (by decide) r1 rfl rfl hl.1 rfl (by first | exact Nat.le_of_ble_eq_true rfl | decide) dX10_filed_49 ⟨Nat.zero_le _, Nat.zero_le _⟩) ?_
        exact re_S hx hb hr hlocks (rfl) dX10_filed_52 (Or.inr ⟨a, ha, rfl, c17, by simp [c37]⟩)
      · refine lv_iload_n hx hb dX10_filed_40 rfl (lv_at hl 0 rfl) ?_
        refine lv_goto (tgt := 52) hx hb dX10_filed_41 (by decide) ?_
        exact re_S hx hb hr hlocks (rfl) dX10_filed_52 (Or.inr ⟨a, ha, rfl, c17, by simp [c37]⟩)
    · refine lv_bipush (v := (-2)) hx hb dX10_filed_20 (by decide) ?_
      exact re_S hx hb hr hlocks (rfl) dX10_filed_22 (Or.inl ⟨by simp [c8, c17], rfl⟩)
set_option maxHeartbeats 4000000 in
set_option maxRecDepth 100000 in
theorem k_X10_alike (l : Launch) {G : GT} {c : Nat → va_E} {im : Bool} {iz : Int32} (o1 : c 0 = .inr (8, [.ref (gad G 1), .ref (gad G 3), .ref (gad G 5), .ref (gad G 8), .ref (gad G 9), .ref (gad G 11), .ref (gad G 16), .ref (gad G 18), .int (bi im), .ref (gad G 27), .ref (gad G 29), .int iz])) {n : Nat} {f : Nat → Int32} (h1 : c 1 = .inr (0, [.ref (gad G 2), .int (nI n)])) (h2 : c 2 = .inl (gI G, 132, .inl f)) (hn : n ≤ 12)  : Met l yX10_alike (wv yX10_alike cX10_alike 3 (some .int)) ({ frames := 3, cells := 0, slots := 0, locals := 67 } : Room) (va_Pc [.ref (gad G 0)] (fun U => Hw G c U U.heap)) (vp_Si (fun r => r = nI (cntU (agn f n) n))) 0 0 (fun _ => False) := by
  refine en (by decide +kernel) (by first | exact Nat.le_of_ble_eq_true rfl | decide) ?_
  intro p e s m below meth cd ls hx hb hr hml hown hts hlocks hnm hw hl
  have hl : lv_has ls 3 [(0, .ref (gad G 0))] := hl
  refine lv_iconst (v := 0) hx hb dX10_alike_0 (by decide) ?_
  refine lv_istore_n (lv' := [(1, _), (0, _)]) hx hb dX10_alike_1 rfl hl (by decide) rfl (fun ls hl => ?_)
  refine lv_iconst (v := 0) hx hb dX10_alike_2 (by decide) ?_
  refine lv_istore_n (lv' := [(2, _), (1, _), (0, _)]) hx hb dX10_alike_3 rfl hl (by decide) rfl (fun ls hl => ?_)
  have L4 : ∀ (N : Nat) (i : Nat), (i + N = n) → ∀ ls : Array Slot, lv_has ls 3 [(2, .int (nI i)), (1, .int (nI (cntU (agn f n) i))), (0, .ref (gad G 0))] → W p l e ({ frames := 3, cells := 0, slots := 0, locals := 67 } : Room) s m (([.ref (gad G 0)] : List Value).toArray) below meth cd s.heap [] 0 0 (MQ below (vp_Si (fun r => r = nI (cntU (agn f n) n))) ([.ref (gad G 0)] : List Value).toArray s 0 0 (fun _ => False)) (F0 m 4 ls []) := by
    intro N
    induction N with
    | zero =>
      intro i  hN ls hl
      obtain rfl : i = n := by omega
      refine lv_iload_n hx hb dX10_alike_4 rfl (lv_at hl 0 rfl) ?_
      refine lv_aload_n hx hb dX10_alike_5 rfl (lv_at hl 2 rfl) ?_
      refine w_get (C := RX10) (T := TX10) (N := 12) 0 hx hb hts inX10 hown hw (by decide) o1 rfl (by decide) (hts _ tw_152) rfl dX10_alike_6 ?_
      refine cSe (rV (As := []) ⟨hx, hb, hml, hown, hts⟩ hw (k_X1_size l (by decide) (by decide) h1 h2 hn) (cv_X1_size hts tw_252 rfl rfl ⟨Nat.le_of_ble_eq_true rfl, Nat.le_of_ble_eq_true rfl⟩) (by decide) h1 rfl rfl hl.1 rfl (by first | exact Nat.le_of_ble_eq_true rfl | decide) dX10_alike_9 ⟨Nat.zero_le _, Nat.zero_le _⟩) ?_
      refine lv_icmp_ge (tgt := 35) hx hb dX10_alike_12 (by decide) (fun c12 => ?_) (fun q => absurd (Int32.le_refl _) q)
      refine lv_iload_n hx hb dX10_alike_35 rfl (lv_at hl 1 rfl) ?_
      exact re_S hx hb hr hlocks (rfl) dX10_alike_36 (rfl)
    | succ N ih =>
      intro i  hN ls hl
      refine lv_iload_n hx hb dX10_alike_4 rfl (lv_at hl 0 rfl) ?_
      refine lv_aload_n hx hb dX10_alike_5 rfl (lv_at hl 2 rfl) ?_
      refine w_get (C := RX10) (T := TX10) (N := 12) 0 hx hb hts inX10 hown hw (by decide) o1 rfl (by decide) (hts _ tw_152) rfl dX10_alike_6 ?_
      refine cSe (rV (As := []) ⟨hx, hb, hml, hown, hts⟩ hw (k_X1_size l (by decide) (by decide) h1 h2 hn) (cv_X1_size hts tw_252 rfl rfl ⟨Nat.le_of_ble_eq_true rfl, Nat.le_of_ble_eq_true rfl⟩) (by decide) h1 rfl rfl hl.1 rfl (by first | exact Nat.le_of_ble_eq_true rfl | decide) dX10_alike_9 ⟨Nat.zero_le _, Nat.zero_le _⟩) ?_
      refine lv_icmp_ge (tgt := 35) hx hb dX10_alike_12 (by decide) (fun q => absurd q (nI_ge (by omega) (by omega))) (fun c12 => ?_)
      refine lv_aload_n hx hb dX10_alike_15 rfl (lv_at hl 2 rfl) ?_
      refine w_get (C := RX10) (T := TX10) (N := 12) 0 hx hb hts inX10 hown hw (by decide) o1 rfl (by decide) (hts _ tw_152) rfl dX10_alike_16 ?_
      refine lv_iload_n hx hb dX10_alike_19 rfl (lv_at hl 0 rfl) ?_
      refine cSe (rV (As := [_]) ⟨hx, hb, hml, hown, hts⟩ hw (k_X1_isSaidAgain l (by decide) (by decide) h1 h2 hn (by omega)) (cv_X1_isSaidAgain hts tw_557 rfl rfl ⟨Nat.le_of_ble_eq_true rfl, Nat.le_of_ble_eq_true rfl⟩) (by decide) h1 rfl rfl hl.1 rfl (by first | exact Nat.le_of_ble_eq_true rfl | decide) dX10_alike_20 ⟨Nat.zero_le _, Nat.zero_le _⟩) ?_
      refine zb_eq (tgt := 29) hx hb dX10_alike_23 (by decide) (fun c23 => ?_) (fun c23 => ?_)
      · refine lv_iinc (v := nI (i + 1)) (lv' := [(2, _), (1, _), (0, _)]) hx hb dX10_alike_29 hl (k := 0) rfl (inc1 i) (by decide) rfl (fun ls hl => ?_)
        refine lv_goto (tgt := 4) hx hb dX10_alike_32 (by decide) ?_
        have e9 := cnt_n (P := agn f n) (i := i) c23
        exact ih (i + 1) (by omega) ls (by rw [e9]; exact lv_sub hl [0, 1, 2] rfl)
      · skip
        refine lv_iinc (v := nI (cntU (agn f n) (i + 1))) (lv' := [(1, _), (2, _), (0, _)]) hx hb dX10_alike_26 hl (k := 1) rfl (cnt_s (P := agn f n) c23) (by decide) rfl (fun ls hl => ?_)
        refine lv_iinc (v := nI (i + 1)) (lv' := [(2, _), (1, _), (0, _)]) hx hb dX10_alike_29 hl (k := 1) rfl (inc1 i) (by decide) rfl (fun ls hl => ?_)
        refine lv_goto (tgt := 4) hx hb dX10_alike_32 (by decide) ?_
        exact ih (i + 1) (by omega) ls (by exact lv_sub hl [0, 1, 2] rfl)
  exact L4 n 0 (by omega) ls (lv_sub hl [0, 1, 2] rfl)
set_option maxHeartbeats 4000000 in
set_option maxRecDepth 100000 in
theorem k_X10_forget (l : Launch) {G : GT} {c : Nat → va_E} {im : Bool} {iz : Int32} (o1 : c 0 = .inr (8, [.ref (gad G 1), .ref (gad G 3), .ref (gad G 5), .ref (gad G 8), .ref (gad G 9), .ref (gad G 11), .ref (gad G 16), .ref (gad G 18), .int (bi im), .ref (gad G 27), .ref (gad G 29), .int iz])) {rn : Nat} {rf rt : Nat → Int32} (r1 : c 5 = .inr (4, [.ref (gad G 6), .ref (gad G 7), .int (nI rn)])) (r2 : c 6 = .inl (gI G, 128, .inl rf)) (r3 : c 7 = .inl (gI G, 16, .inl rt)) (hrn : rn ≤ 16)  : Met l yX10_forget (wv yX10_forget cX10_forget 2 (some .int)) ({ frames := 1, cells := 0, slots := 0, locals := 20 } : Room) (va_Pc [.ref (gad G 0)] (fun U => Hw G c U U.heap)) (va_Qi (fun r (c9 : Nat → va_E) => r = nI rn ∧ c9 = va_up c 5 (.inr (4, [.ref (gad G 6), .ref (gad G 7), .int (nI 0)]))) (fun c9 t => Hw G c9 t t.heap) (gA G)) 0 0 (gA G) := by
  refine en (by decide +kernel) (by first | exact Nat.le_of_ble_eq_true rfl | decide) ?_
  intro p e s m below meth cd ls hx hb hr hml hown hts hlocks hnm hw hl
  have hl : lv_has ls 2 [(0, .ref (gad G 0))] := hl
  have hX : Sw G s s.heap := hw.2.2.2.2.2
  have hS : va_S (gA G) s.heap s.heap [] := va_S.rf
  obtain ⟨H, hH⟩ : ∃ wz9, wz9 = s.heap := ⟨_, rfl⟩
  obtain ⟨locs, hlocs⟩ : ∃ wz9 : List Loc, wz9 = [] := ⟨_, rfl⟩
  have hw : Hw G c s H := by rw [hH]; exact hw
  have hS : va_S (gA G) s.heap H locs := by rw [hH, hlocs]; exact hS
  suffices hgo : W p l e ({ frames := 1, cells := 0, slots := 0, locals := 20 } : Room) s m (([.ref (gad G 0)] : List Value).toArray) below meth cd H locs 0 0 (MQ below (va_Qi (fun r (c9 : Nat → va_E) => r = nI rn ∧ c9 = va_up c 5 (.inr (4, [.ref (gad G 6), .ref (gad G 7), .int (nI 0)]))) (fun c9 t => Hw G c9 t t.heap) (gA G)) ([.ref (gad G 0)] : List Value).toArray s 0 0 (gA G)) (F0 m 0 ls []) by rw [hH, hlocs] at hgo; exact hgo
  refine lv_aload_n hx hb dX10_forget_0 rfl (lv_at hl 0 rfl) ?_
  refine w_get (C := RX10) (T := TX10) (N := 12) 2 hx hb hts inX10 hown hw (by decide) o1 rfl (by decide) (hts _ tw_154) rfl dX10_forget_1 ?_
  refine cSe (rV (As := []) ⟨hx, hb, hml, hown, hts⟩ hw (k_X5_size l r1 r2 r3 hrn) (cv_X5_size hts tw_569 rfl rfl ⟨Nat.le_of_ble_eq_true rfl, Nat.le_of_ble_eq_true rfl⟩) (by decide) r1 rfl rfl hl.1 rfl (by first | exact Nat.le_of_ble_eq_true rfl | decide) dX10_forget_4 ⟨Nat.zero_le _, Nat.zero_le _⟩) ?_
  refine lv_istore_n (lv' := [(1, _), (0, _)]) hx hb dX10_forget_7 rfl hl (by decide) rfl (fun ls hl => ?_)
  refine lv_aload_n hx hb dX10_forget_8 rfl (lv_at hl 1 rfl) ?_
  refine w_get (C := RX10) (T := TX10) (N := 12) 2 hx hb hts inX10 hown hw (by decide) o1 rfl (by decide) (hts _ tw_154) rfl dX10_forget_9 ?_
  refine cQv (rV (As := []) ⟨hx, hb, hml, hown, hts⟩ hw (k_X5_empty l r1 r2 r3 hrn) (cv_X5_empty hts tw_573 rfl rfl ⟨Nat.le_of_ble_eq_true rfl, Nat.le_of_ble_eq_true rfl⟩) (by decide) r1 rfl rfl hl.1 rfl (by first | exact Nat.le_of_ble_eq_true rfl | decide) dX10_forget_12 ⟨Nat.zero_le _, Nat.zero_le _⟩) hw hS (fun w1 H locs hp12 hw hS => ?_)
  refine lv_iload_n hx hb dX10_forget_15 rfl (lv_at hl 0 rfl) ?_
  exact re_Q hx hb hr hlocks (rfl) hw hS dX10_forget_16 (⟨rfl, hp12⟩)
set_option maxHeartbeats 4000000 in
set_option maxRecDepth 100000 in
theorem k_X10_wipe (l : Launch) {G : GT} {c : Nat → va_E} {im : Bool} {iz : Int32} (o1 : c 0 = .inr (8, [.ref (gad G 1), .ref (gad G 3), .ref (gad G 5), .ref (gad G 8), .ref (gad G 9), .ref (gad G 11), .ref (gad G 16), .ref (gad G 18), .int (bi im), .ref (gad G 27), .ref (gad G 29), .int iz])) {tn : Nat} {tf : Nat → Int32} (t1 : c 9 = .inr (6, [.ref (gad G 10), .int (nI tn)])) (t2 : c 10 = .inl (gI G, 120, .inl tf)) (htn : tn ≤ 120)  : Met l yX10_wipe (wv yX10_wipe cX10_wipe 2 (some .int)) ({ frames := 1, cells := 0, slots := 0, locals := 20 } : Room) (va_Pc [.ref (gad G 0)] (fun U => Hw G c U U.heap)) (va_Qi (fun r (c9 : Nat → va_E) => r = nI tn ∧ c9 = va_up c 9 (.inr (6, [.ref (gad G 10), .int (nI 0)]))) (fun c9 t => Hw G c9 t t.heap) (gA G)) 0 0 (gA G) := by
  refine en (by decide +kernel) (by first | exact Nat.le_of_ble_eq_true rfl | decide) ?_
  intro p e s m below meth cd ls hx hb hr hml hown hts hlocks hnm hw hl
  have hl : lv_has ls 2 [(0, .ref (gad G 0))] := hl
  have hX : Sw G s s.heap := hw.2.2.2.2.2
  have hS : va_S (gA G) s.heap s.heap [] := va_S.rf
  obtain ⟨H, hH⟩ : ∃ wz9, wz9 = s.heap := ⟨_, rfl⟩
  obtain ⟨locs, hlocs⟩ : ∃ wz9 : List Loc, wz9 = [] := ⟨_, rfl⟩
  have hw : Hw G c s H := by rw [hH]; exact hw
  have hS : va_S (gA G) s.heap H locs := by rw [hH, hlocs]; exact hS
  suffices hgo : W p l e ({ frames := 1, cells := 0, slots := 0, locals := 20 } : Room) s m (([.ref (gad G 0)] : List Value).toArray) below meth cd H locs 0 0 (MQ below (va_Qi (fun r (c9 : Nat → va_E) => r = nI tn ∧ c9 = va_up c 9 (.inr (6, [.ref (gad G 10), .int (nI 0)]))) (fun c9 t => Hw G c9 t t.heap) (gA G)) ([.ref (gad G 0)] : List Value).toArray s 0 0 (gA G)) (F0 m 0 ls []) by rw [hH, hlocs] at hgo; exact hgo
  refine lv_aload_n hx hb dX10_wipe_0 rfl (lv_at hl 0 rfl) ?_
  refine w_get (C := RX10) (T := TX10) (N := 12) 4 hx hb hts inX10 hown hw (by decide) o1 rfl (by decide) (hts _ tw_156) rfl dX10_wipe_1 ?_
  refine cSe (rV (As := []) ⟨hx, hb, hml, hown, hts⟩ hw (k_X7_size l t1 t2 htn) (cv_X7_size hts tw_581 rfl rfl ⟨Nat.le_of_ble_eq_true rfl, Nat.le_of_ble_eq_true rfl⟩) (by decide) t1 rfl rfl hl.1 rfl (by first | exact Nat.le_of_ble_eq_true rfl | decide) dX10_wipe_4 ⟨Nat.zero_le _, Nat.zero_le _⟩) ?_
  refine lv_istore_n (lv' := [(1, _), (0, _)]) hx hb dX10_wipe_7 rfl hl (by decide) rfl (fun ls hl => ?_)
  refine lv_aload_n hx hb dX10_wipe_8 rfl (lv_at hl 1 rfl) ?_
  refine w_get (C := RX10) (T := TX10) (N := 12) 4 hx hb hts inX10 hown hw (by decide) o1 rfl (by decide) (hts _ tw_156) rfl dX10_wipe_9 ?_
  refine cQv (rV (As := []) ⟨hx, hb, hml, hown, hts⟩ hw (k_X7_empty l t1 t2 htn) (cv_X7_empty hts tw_593 rfl rfl ⟨Nat.le_of_ble_eq_true rfl, Nat.le_of_ble_eq_true rfl⟩) (by decide) t1 rfl rfl hl.1 rfl (by first | exact Nat.le_of_ble_eq_true rfl | decide) dX10_wipe_12 ⟨Nat.zero_le _, Nat.zero_le _⟩) hw hS (fun w1 H locs hp12 hw hS => ?_)
  refine lv_iload_n hx hb dX10_wipe_15 rfl (lv_at hl 0 rfl) ?_
  exact re_Q hx hb hr hlocks (rfl) hw hS dX10_wipe_16 (⟨rfl, hp12⟩)
set_option maxHeartbeats 4000000 in
set_option maxRecDepth 100000 in
theorem k_X10_feed (l : Launch) {G : GT} {c : Nat → va_E} {im : Bool} {iz : Int32} (o1 : c 0 = .inr (8, [.ref (gad G 1), .ref (gad G 3), .ref (gad G 5), .ref (gad G 8), .ref (gad G 9), .ref (gad G 11), .ref (gad G 16), .ref (gad G 18), .int (bi im), .ref (gad G 27), .ref (gad G 29), .int iz])) {tn : Nat} {tf : Nat → Int32} (t1 : c 9 = .inr (6, [.ref (gad G 10), .int (nI tn)])) (t2 : c 10 = .inl (gI G, 120, .inl tf)) (htn : tn ≤ 120) {v w : Int32} : Met l yX10_feed (wv yX10_feed cX10_feed 4 (some .int)) ({ frames := 1, cells := 0, slots := 0, locals := 22 } : Room) (va_Pc [.ref (gad G 0), .int v, .int w] (fun U => Hw G c U U.heap)) (va_Qi (fun r (c9 : Nat → va_E) => (wn w 1 4 = false ∧ r = -2 ∧ c9 = c) ∨ (∃ j9 : Nat, 1 ≤ j9 ∧ j9 ≤ 4 ∧ w = nI j9 ∧ ((120 < tn + j9 ∧ r = -4 ∧ c9 = c) ∨ (tn + j9 ≤ 120 ∧ r = nI (tn + j9) ∧ c9 = va_up (va_up c 10 (.inl (gI G, 120, .inl (fdF tf tn v j9 j9)))) 9 (.inr (6, [.ref (gad G 10), .int (nI (tn + j9))])))))) (fun c9 t => Hw G c9 t t.heap) (gA G)) 0 0 (gA G) := by
  refine en (by decide +kernel) (by first | exact Nat.le_of_ble_eq_true rfl | decide) ?_
  intro p e s m below meth cd ls hx hb hr hml hown hts hlocks hnm hw hl
  have hl : lv_has ls 4 [(0, .ref (gad G 0)), (1, .int v), (2, .int w)] := hl
  have hX : Sw G s s.heap := hw.2.2.2.2.2
  have hS : va_S (gA G) s.heap s.heap [] := va_S.rf
  obtain ⟨H, hH⟩ : ∃ wz9, wz9 = s.heap := ⟨_, rfl⟩
  obtain ⟨locs, hlocs⟩ : ∃ wz9 : List Loc, wz9 = [] := ⟨_, rfl⟩
  have hw : Hw G c s H := by rw [hH]; exact hw
  have hS : va_S (gA G) s.heap H locs := by rw [hH, hlocs]; exact hS
  suffices hgo : W p l e ({ frames := 1, cells := 0, slots := 0, locals := 22 } : Room) s m (([.ref (gad G 0), .int v, .int w] : List Value).toArray) below meth cd H locs 0 0 (MQ below (va_Qi (fun r (c9 : Nat → va_E) => (wn w 1 4 = false ∧ r = -2 ∧ c9 = c) ∨ (∃ j9 : Nat, 1 ≤ j9 ∧ j9 ≤ 4 ∧ w = nI j9 ∧ ((120 < tn + j9 ∧ r = -4 ∧ c9 = c) ∨ (tn + j9 ≤ 120 ∧ r = nI (tn + j9) ∧ c9 = va_up (va_up c 10 (.inl (gI G, 120, .inl (fdF tf tn v j9 j9)))) 9 (.inr (6, [.ref (gad G 10), .int (nI (tn + j9))])))))) (fun c9 t => Hw G c9 t t.heap) (gA G)) ([.ref (gad G 0), .int v, .int w] : List Value).toArray s 0 0 (gA G)) (F0 m 0 ls []) by rw [hH, hlocs] at hgo; exact hgo
  refine lv_iload_n hx hb dX10_feed_0 rfl (lv_at hl 2 rfl) ?_
  refine lv_iconst (v := 1) hx hb dX10_feed_1 (by decide) ?_
  refine lv_iconst (v := 4) hx hb dX10_feed_2 (by decide) ?_
  refine cSe (rST (As := [_, _, _]) ⟨hx, hb, hml, hown, hts⟩ (k_X10_within l ) (cv_X10_within hts tw_209 rfl rfl ⟨Nat.le_of_ble_eq_true rfl, Nat.le_of_ble_eq_true rfl⟩) rfl hl.1 rfl (by first | exact Nat.le_of_ble_eq_true rfl | decide) dX10_feed_3 ⟨Nat.zero_le _, Nat.zero_le _⟩) ?_
  refine zb_ne (tgt := 12) hx hb dX10_feed_6 (by decide) (fun c6 => ?_) (fun c6 => ?_)
  · obtain ⟨k, hk1, hk2, rfl⟩ := wn_nI (a := 1) (b := 4) (by decide) (by decide) c6
    refine lv_aload_n hx hb dX10_feed_12 rfl (lv_at hl 0 rfl) ?_
    refine w_get (C := RX10) (T := TX10) (N := 12) 4 hx hb hts inX10 hown hw (by decide) o1 rfl (by decide) (hts _ tw_156) rfl dX10_feed_13 ?_
    refine cSe (rV (As := []) ⟨hx, hb, hml, hown, hts⟩ hw (k_X7_size l t1 t2 htn) (cv_X7_size hts tw_581 rfl rfl ⟨Nat.le_of_ble_eq_true rfl, Nat.le_of_ble_eq_true rfl⟩) (by decide) t1 rfl rfl hl.1 rfl (by first | exact Nat.le_of_ble_eq_true rfl | decide) dX10_feed_16 ⟨Nat.zero_le _, Nat.zero_le _⟩) ?_
    refine lv_iload_n hx hb dX10_feed_19 rfl (lv_at hl 2 rfl) ?_
    refine lv_iadd hx hb dX10_feed_20 ?_
    refine lv_bipush (v := 120) hx hb dX10_feed_21 (by decide) ?_
    refine tp2 (y := nI (tn + k)) (nI_add tn k) ?_
    refine lv_icmp_le (tgt := 29) hx hb dX10_feed_23 (by decide) (fun c23 => ?_) (fun c23 => ?_)
    · have hle : tn + k ≤ 120 := (nI_leI (b := 120) (by omega) (by omega)).mp c23
      refine lv_iload_n hx hb dX10_feed_29 rfl (lv_at hl 2 rfl) ?_
      refine lv_iconst (v := 1) hx hb dX10_feed_30 (by decide) ?_
      refine lv_isub hx hb dX10_feed_31 ?_
      refine lv_istore_n (lv' := [(3, _), (0, _), (1, _), (2, _)]) hx hb dX10_feed_32 rfl hl (by decide) rfl (fun ls hl => ?_)
      have L33 : ∀ (N : Nat) (fz : Nat → Int32), (N ≤ k) → (fz = fdF tf tn v k (k - N)) → ∀ (c0 : Nat → va_E) (H : Heap) (locs : List Loc), (c0 = va_up (va_up c 10 (.inl (gI G, 120, .inl fz))) 9 (.inr (6, [.ref (gad G 10), .int (nI (tn + (k - N)))]))) → Hw G c0 s H → va_S (gA G) s.heap H locs → ∀ ls : Array Slot, lv_has ls 4 [(3, .int (nI N - 1)), (2, .int (nI k)), (1, .int v), (0, .ref (gad G 0))] → W p l e ({ frames := 1, cells := 0, slots := 0, locals := 22 } : Room) s m (([.ref (gad G 0), .int v, .int (nI k)] : List Value).toArray) below meth cd H locs 0 0 (MQ below (va_Qi (fun r (c9 : Nat → va_E) => (wn (nI k) 1 4 = false ∧ r = -2 ∧ c9 = c) ∨ (∃ j9 : Nat, 1 ≤ j9 ∧ j9 ≤ 4 ∧ (nI k) = nI j9 ∧ ((120 < tn + j9 ∧ r = -4 ∧ c9 = c) ∨ (tn + j9 ≤ 120 ∧ r = nI (tn + j9) ∧ c9 = va_up (va_up c 10 (.inl (gI G, 120, .inl (fdF tf tn v j9 j9)))) 9 (.inr (6, [.ref (gad G 10), .int (nI (tn + j9))])))))) (fun c9 t => Hw G c9 t t.heap) (gA G)) ([.ref (gad G 0), .int v, .int (nI k)] : List Value).toArray s 0 0 (gA G)) (F0 m 33 ls []) := by
        intro N
        induction N with
        | zero =>
          intro fz  hN hz c0 H locs e0 hw hS ls hl
          have o1 : c0 0 = .inr (8, [.ref (gad G 1), .ref (gad G 3), .ref (gad G 5), .ref (gad G 8), .ref (gad G 9), .ref (gad G 11), .ref (gad G 16), .ref (gad G 18), .int (bi im), .ref (gad G 27), .ref (gad G 29), .int iz]) := by rw [e0]; exact vu_e (by decide) (vu_e (by decide) o1)
          have t1 : c0 9 = .inr (6, [.ref (gad G 10), .int (nI (tn + k))]) := by rw [e0]; exact vu_s
          have t2 : c0 10 = .inl (gI G, 120, .inl fz) := by rw [e0]; exact vu_e (by decide) vu_s
          refine lv_iload_n hx hb dX10_feed_33 rfl (lv_at hl 0 rfl) ?_
          refine lv_if_lt (tgt := 60) hx hb dX10_feed_34 (by decide) (fun c34 => ?_) (fun q => absurd (by decide) q)
          refine lv_aload_n hx hb dX10_feed_60 rfl (lv_at hl 3 rfl) ?_
          refine w_get (C := RX10) (T := TX10) (N := 12) 4 hx hb hts inX10 hown hw (by decide) o1 rfl (by decide) (hts _ tw_156) rfl dX10_feed_61 ?_
          refine cSe (rV (As := []) ⟨hx, hb, hml, hown, hts⟩ hw (k_X7_size l t1 t2 (by omega)) (cv_X7_size hts tw_581 rfl rfl ⟨Nat.le_of_ble_eq_true rfl, Nat.le_of_ble_eq_true rfl⟩) (by decide) t1 rfl rfl hl.1 rfl (by first | exact Nat.le_of_ble_eq_true rfl | decide) dX10_feed_64 ⟨Nat.zero_le _, Nat.zero_le _⟩) ?_
          exact re_Q hx hb hr hlocks (rfl) hw hS dX10_feed_67 (Or.inr ⟨k, hk1, hk2, rfl, Or.inr ⟨hle, rfl, by rw [e0, hz]; rfl⟩⟩)
        | succ N ih =>
          intro fz  hN hz c0 H locs e0 hw hS ls hl
          rw [nI_pred] at hl
          have o1 : c0 0 = .inr (8, [.ref (gad G 1), .ref (gad G 3), .ref (gad G 5), .ref (gad G 8), .ref (gad G 9), .ref (gad G 11), .ref (gad G 16), .ref (gad G 18), .int (bi im), .ref (gad G 27), .ref (gad G 29), .int iz]) := by rw [e0]; exact vu_e (by decide) (vu_e (by decide) o1)
          have t1 : c0 9 = .inr (6, [.ref (gad G 10), .int (nI (tn + (k - (N + 1))))]) := by rw [e0]; exact vu_s
          have t2 : c0 10 = .inl (gI G, 120, .inl fz) := by rw [e0]; exact vu_e (by decide) vu_s
          refine lv_iload_n hx hb dX10_feed_33 rfl (lv_at hl 0 rfl) ?_
          refine lv_if_lt (tgt := 60) hx hb dX10_feed_34 (by decide) (fun q => absurd q (nI_pos (by omega))) (fun c34 => ?_)
          refine lv_aload_n hx hb dX10_feed_37 rfl (lv_at hl 3 rfl) ?_
          refine w_get (C := RX10) (T := TX10) (N := 12) 4 hx hb hts inX10 hown hw (by decide) o1 rfl (by decide) (hts _ tw_156) rfl dX10_feed_38 ?_
          refine lv_iload_n hx hb dX10_feed_41 rfl (lv_at hl 2 rfl) ?_
          refine lv_bipush (v := 8) hx hb dX10_feed_42 (by decide) ?_
          refine lv_iload_n hx hb dX10_feed_44 rfl (lv_at hl 0 rfl) ?_
          refine lv_imul hx hb dX10_feed_45 ?_
          refine lv_iushr hx hb dX10_feed_46 rfl ?_
          refine lv_sipush (v := 255) hx hb dX10_feed_47 (by decide) ?_
          refine lv_iand hx hb dX10_feed_50 ?_
          refine tp (y := byt v N) rfl ?_
          refine cQv (rV (As := [_]) ⟨hx, hb, hml, hown, hts⟩ hw (k_X7_append l t1 t2 (by omega) (by omega)) (cv_X7_append hts tw_585 rfl rfl ⟨Nat.le_of_ble_eq_true rfl, Nat.le_of_ble_eq_true rfl⟩) (by decide) t1 rfl rfl hl.1 rfl (by first | exact Nat.le_of_ble_eq_true rfl | decide) dX10_feed_51 ⟨Nat.zero_le _, Nat.zero_le _⟩) hw hS (fun w1 H locs hp51 hw hS => ?_)
          have o1_1 : w1 0 = .inr (8, [.ref (gad G 1), .ref (gad G 3), .ref (gad G 5), .ref (gad G 8), .ref (gad G 9), .ref (gad G 11), .ref (gad G 16), .ref (gad G 18), .int (bi im), .ref (gad G 27), .ref (gad G 29), .int iz]) := by rw [hp51]; exact (vu_e (by first | decide | omega) (vu_e (by first | decide | omega) o1))
          have t1_1 : w1 9 = .inr (6, [.ref (gad G 10), .int (nI (tn + (k - (N + 1)) + 1))]) := by rw [hp51]; exact vu_s
          have t2_1 : w1 10 = .inl (gI G, 120, .inl (upd fz (tn + (k - (N + 1))) (byt v N))) := by rw [hp51]; exact vu_e (by decide) vu_s
          refine lv_iinc (v := nI N - 1) (lv' := [(3, _), (2, _), (1, _), (0, _)]) hx hb dX10_feed_54 hl (k := 0) rfl (incm _) (by decide) rfl (fun ls hl => ?_)
          refine lv_goto (tgt := 33) hx hb dX10_feed_57 (by decide) ?_
          exact ih (fdF tf tn v k (k - N)) (by omega) rfl _ H locs (by rw [hp51, e0, hz, up_sw (by decide : (9 : Nat) ≠ 10), up_up, up_up, show tn + (k - (N + 1)) + 1 = tn + (k - N) by omega, show byt v N = byt v (k - 1 - (k - (N + 1))) by rw [show k - 1 - (k - (N + 1)) = N by omega], fdF_s, show k - (N + 1) + 1 = k - N by omega]) hw hS ls (lv_sub hl [0, 1, 2, 3] rfl)
      exact L33 k tf (Nat.le_refl k) (by rw [Nat.sub_self, fdF_0]) _ H locs (by rw [Nat.sub_self, up_id t2]; exact (up_id t1).symm) hw hS ls (lv_sub hl [0, 3, 2, 1] rfl)
    · have hgt : 120 < tn + k := (nI_ltI (a := 120) (by omega) (by omega)).mp (Int32.not_le.mp c23)
      refine lv_bipush (v := (-4)) hx hb dX10_feed_26 (by decide) ?_
      exact re_Q hx hb hr hlocks (rfl) hw hS dX10_feed_28 (Or.inr ⟨k, hk1, hk2, rfl, Or.inl ⟨hgt, rfl, rfl⟩⟩)
  · refine lv_bipush (v := (-2)) hx hb dX10_feed_9 (by decide) ?_
    exact re_Q hx hb hr hlocks (rfl) hw hS dX10_feed_11 (Or.inl ⟨c6, rfl, rfl⟩)
set_option maxHeartbeats 4000000 in
set_option maxRecDepth 100000 in
theorem k_X10_seed (l : Launch) {G : GT} {c : Nat → va_E} {im : Bool} {iz : Int32} (o1 : c 0 = .inr (8, [.ref (gad G 1), .ref (gad G 3), .ref (gad G 5), .ref (gad G 8), .ref (gad G 9), .ref (gad G 11), .ref (gad G 16), .ref (gad G 18), .int (bi im), .ref (gad G 27), .ref (gad G 29), .int iz])) {z : Int32} (z1 : c 8 = .inr (1, [.int z])) {v : Int32} : Met l yX10_seed (wv yX10_seed cX10_seed 3 (some .int)) ({ frames := 0, cells := 0, slots := 0, locals := 0 } : Room) (va_Pc [.ref (gad G 0), .int v] (fun U => Hw G c U U.heap)) (va_Qi (fun r (c9 : Nat → va_E) => r = z ∧ c9 = va_up c 8 (.inr (1, [.int v]))) (fun c9 t => Hw G c9 t t.heap) (gA G)) 0 0 (gA G) := by
  refine en (by decide +kernel) (by first | exact Nat.le_of_ble_eq_true rfl | decide) ?_
  intro p e s m below meth cd ls hx hb hr hml hown hts hlocks hnm hw hl
  have hl : lv_has ls 3 [(0, .ref (gad G 0)), (1, .int v)] := hl
  have hX : Sw G s s.heap := hw.2.2.2.2.2
  have hS : va_S (gA G) s.heap s.heap [] := va_S.rf
  obtain ⟨H, hH⟩ : ∃ wz9, wz9 = s.heap := ⟨_, rfl⟩
  obtain ⟨locs, hlocs⟩ : ∃ wz9 : List Loc, wz9 = [] := ⟨_, rfl⟩
  have hw : Hw G c s H := by rw [hH]; exact hw
  have hS : va_S (gA G) s.heap H locs := by rw [hH, hlocs]; exact hS
  suffices hgo : W p l e ({ frames := 0, cells := 0, slots := 0, locals := 0 } : Room) s m (([.ref (gad G 0), .int v] : List Value).toArray) below meth cd H locs 0 0 (MQ below (va_Qi (fun r (c9 : Nat → va_E) => r = z ∧ c9 = va_up c 8 (.inr (1, [.int v]))) (fun c9 t => Hw G c9 t t.heap) (gA G)) ([.ref (gad G 0), .int v] : List Value).toArray s 0 0 (gA G)) (F0 m 0 ls []) by rw [hH, hlocs] at hgo; exact hgo
  refine lv_aload_n hx hb dX10_seed_0 rfl (lv_at hl 0 rfl) ?_
  refine w_get (C := RX10) (T := TX10) (N := 12) 3 hx hb hts inX10 hown hw (by decide) o1 rfl (by decide) (hts _ tw_155) rfl dX10_seed_1 ?_
  refine w_get (C := RX2) (T := TX2) (N := 1) 0 hx hb hts inX2 hown hw (by decide) z1 rfl (by decide) (hts _ tw_67) rfl dX10_seed_4 ?_
  refine lv_istore_n (lv' := [(2, _), (0, _), (1, _)]) hx hb dX10_seed_7 rfl hl (by decide) rfl (fun ls hl => ?_)
  refine lv_aload_n hx hb dX10_seed_8 rfl (lv_at hl 1 rfl) ?_
  refine w_get (C := RX10) (T := TX10) (N := 12) 3 hx hb hts inX10 hown hw (by decide) o1 rfl (by decide) (hts _ tw_155) rfl dX10_seed_9 ?_
  refine lv_iload_n hx hb dX10_seed_12 rfl (lv_at hl 2 rfl) ?_
  refine w_put (C := RX2) (T := TX2) (N := 1) (v := .int v) 0 tyX2 hx hb hts inX2 tyX2_ok nmX2 hown hw hX hS (by decide) z1 rfl (by decide) (hts _ tw_67) rfl rfl (rfl) (rfl) (Nat.le_of_ble_eq_true rfl) dX10_seed_13 (fun H locs hw hS => ?_)
  obtain ⟨w2, ew2⟩ : ∃ wz9 : Nat → va_E, wz9 = va_up c 8 (.inr (1, [.int v])) := ⟨_, rfl⟩
  have hw : Hw G w2 s H := by rw [ew2]; exact hw
  have o1_2 : w2 0 = .inr (8, [.ref (gad G 1), .ref (gad G 3), .ref (gad G 5), .ref (gad G 8), .ref (gad G 9), .ref (gad G 11), .ref (gad G 16), .ref (gad G 18), .int (bi im), .ref (gad G 27), .ref (gad G 29), .int iz]) := by rw [ew2]; exact vu_e (by decide) o1
  have z1_2 : w2 8 = .inr (1, [.int v]) := by rw [ew2]; exact vu_s
  refine lv_iload_n hx hb dX10_seed_16 rfl (lv_at hl 0 rfl) ?_
  exact re_Q hx hb hr hlocks (rfl) hw hS dX10_seed_17 (⟨rfl, ew2⟩)
set_option maxHeartbeats 4000000 in
set_option maxRecDepth 100000 in
theorem k_X10_image (l : Launch) {G : GT} {c : Nat → va_E} {im : Bool} {iz : Int32} (o1 : c 0 = .inr (8, [.ref (gad G 1), .ref (gad G 3), .ref (gad G 5), .ref (gad G 8), .ref (gad G 9), .ref (gad G 11), .ref (gad G 16), .ref (gad G 18), .int (bi im), .ref (gad G 27), .ref (gad G 29), .int iz])) {n : Nat} {f : Nat → Int32} (h1 : c 1 = .inr (0, [.ref (gad G 2), .int (nI n)])) (h2 : c 2 = .inl (gI G, 132, .inl f)) (hn : n ≤ 12) {rn : Nat} {rf rt : Nat → Int32} (r1 : c 5 = .inr (4, [.ref (gad G 6), .ref (gad G 7), .int (nI rn)])) (r2 : c 6 = .inl (gI G, 128, .inl rf)) (r3 : c 7 = .inl (gI G, 16, .inl rt)) (hrn : rn ≤ 16) {z : Int32} (z1 : c 8 = .inr (1, [.int z])) {n2 : Nat} {f2 : Nat → Int32} (i1 : c 27 = .inr (0, [.ref (gad G 28), .int (nI n2)])) (i2 : c 28 = .inl (gI G, 132, .inl f2)) {qn : Nat} {qf qt : Nat → Int32} (q1 : c 29 = .inr (4, [.ref (gad G 30), .ref (gad G 31), .int (nI qn)])) (q2 : c 30 = .inl (gI G, 128, .inl qf)) (q3 : c 31 = .inl (gI G, 16, .inl qt))  : Met l yX10_image (wv yX10_image cX10_image 1 (some .int)) ({ frames := 2, cells := 0, slots := 0, locals := 47 } : Room) (va_Pc [.ref (gad G 0)] (fun U => Hw G c U U.heap)) (va_Qi (fun r (c9 : Nat → va_E) => r = nI n ∧ c9 = va_up (va_up (va_up (va_up (va_up (va_up c 27 (.inr (0, [.ref (gad G 28), .int (nI n)]))) 28 (.inl (gI G, 132, .inl f))) 29 (.inr (4, [.ref (gad G 30), .ref (gad G 31), .int (nI rn)]))) 30 (.inl (gI G, 128, .inl rf))) 31 (.inl (gI G, 16, .inl rt))) 0 (.inr (8, [.ref (gad G 1), .ref (gad G 3), .ref (gad G 5), .ref (gad G 8), .ref (gad G 9), .ref (gad G 11), .ref (gad G 16), .ref (gad G 18), .int (bi true), .ref (gad G 27), .ref (gad G 29), .int z]))) (fun c9 t => Hw G c9 t t.heap) (gA G)) 0 0 (gA G) := by
  refine en (by decide +kernel) (by first | exact Nat.le_of_ble_eq_true rfl | decide) ?_
  intro p e s m below meth cd ls hx hb hr hml hown hts hlocks hnm hw hl
  have hl : lv_has ls 1 [(0, .ref (gad G 0))] := hl
  have hX : Sw G s s.heap := hw.2.2.2.2.2
  have hS : va_S (gA G) s.heap s.heap [] := va_S.rf
  obtain ⟨H, hH⟩ : ∃ wz9, wz9 = s.heap := ⟨_, rfl⟩
  obtain ⟨locs, hlocs⟩ : ∃ wz9 : List Loc, wz9 = [] := ⟨_, rfl⟩
  have hw : Hw G c s H := by rw [hH]; exact hw
  have hS : va_S (gA G) s.heap H locs := by rw [hH, hlocs]; exact hS
  suffices hgo : W p l e ({ frames := 2, cells := 0, slots := 0, locals := 47 } : Room) s m (([.ref (gad G 0)] : List Value).toArray) below meth cd H locs 0 0 (MQ below (va_Qi (fun r (c9 : Nat → va_E) => r = nI n ∧ c9 = va_up (va_up (va_up (va_up (va_up (va_up c 27 (.inr (0, [.ref (gad G 28), .int (nI n)]))) 28 (.inl (gI G, 132, .inl f))) 29 (.inr (4, [.ref (gad G 30), .ref (gad G 31), .int (nI rn)]))) 30 (.inl (gI G, 128, .inl rf))) 31 (.inl (gI G, 16, .inl rt))) 0 (.inr (8, [.ref (gad G 1), .ref (gad G 3), .ref (gad G 5), .ref (gad G 8), .ref (gad G 9), .ref (gad G 11), .ref (gad G 16), .ref (gad G 18), .int (bi true), .ref (gad G 27), .ref (gad G 29), .int z]))) (fun c9 t => Hw G c9 t t.heap) (gA G)) ([.ref (gad G 0)] : List Value).toArray s 0 0 (gA G)) (F0 m 0 ls []) by rw [hH, hlocs] at hgo; exact hgo
  refine lv_aload_n hx hb dX10_image_0 rfl (lv_at hl 0 rfl) ?_
  refine w_get (C := RX10) (T := TX10) (N := 12) 9 hx hb hts inX10 hown hw (by decide) o1 rfl (by decide) (hts _ tw_161) rfl dX10_image_1 ?_
  refine lv_aload_n hx hb dX10_image_4 rfl (lv_at hl 0 rfl) ?_
  refine w_get (C := RX10) (T := TX10) (N := 12) 0 hx hb hts inX10 hown hw (by decide) o1 rfl (by decide) (hts _ tw_152) rfl dX10_image_5 ?_
  refine cQv (rV (As := [_]) ⟨hx, hb, hml, hown, hts⟩ hw (k_X1_become_i l i1 i2 h1 h2) (cv_X1_become hts tw_485 rfl rfl ⟨Nat.le_of_ble_eq_true rfl, Nat.le_of_ble_eq_true rfl⟩) (by decide) i1 rfl rfl hl.1 rfl (by first | exact Nat.le_of_ble_eq_true rfl | decide) dX10_image_8 ⟨Nat.zero_le _, Nat.zero_le _⟩) hw hS (fun w1 H locs hp8 hw hS => ?_)
  have o1_1 : w1 0 = .inr (8, [.ref (gad G 1), .ref (gad G 3), .ref (gad G 5), .ref (gad G 8), .ref (gad G 9), .ref (gad G 11), .ref (gad G 16), .ref (gad G 18), .int (bi im), .ref (gad G 27), .ref (gad G 29), .int iz]) := by rw [hp8]; exact (vu_e (by first | decide | omega) (vu_e (by first | decide | omega) o1))
  have h1_1 : w1 1 = .inr (0, [.ref (gad G 2), .int (nI n)]) := by rw [hp8]; exact (vu_e (by first | decide | omega) (vu_e (by first | decide | omega) h1))
  have h2_1 : w1 2 = .inl (gI G, 132, .inl f) := by rw [hp8]; exact (vu_e (by first | decide | omega) (vu_e (by first | decide | omega) h2))
  have r1_1 : w1 5 = .inr (4, [.ref (gad G 6), .ref (gad G 7), .int (nI rn)]) := by rw [hp8]; exact (vu_e (by first | decide | omega) (vu_e (by first | decide | omega) r1))
  have r2_1 : w1 6 = .inl (gI G, 128, .inl rf) := by rw [hp8]; exact (vu_e (by first | decide | omega) (vu_e (by first | decide | omega) r2))
  have r3_1 : w1 7 = .inl (gI G, 16, .inl rt) := by rw [hp8]; exact (vu_e (by first | decide | omega) (vu_e (by first | decide | omega) r3))
  have z1_1 : w1 8 = .inr (1, [.int z]) := by rw [hp8]; exact (vu_e (by first | decide | omega) (vu_e (by first | decide | omega) z1))
  have i1_1 : w1 27 = .inr (0, [.ref (gad G 28), .int (nI n)]) := by rw [hp8]; exact vu_e (by decide) vu_s
  have i2_1 : w1 28 = .inl (gI G, 132, .inl f) := by rw [hp8]; exact vu_s
  have q1_1 : w1 29 = .inr (4, [.ref (gad G 30), .ref (gad G 31), .int (nI qn)]) := by rw [hp8]; exact (vu_e (by first | decide | omega) (vu_e (by first | decide | omega) q1))
  have q2_1 : w1 30 = .inl (gI G, 128, .inl qf) := by rw [hp8]; exact (vu_e (by first | decide | omega) (vu_e (by first | decide | omega) q2))
  have q3_1 : w1 31 = .inl (gI G, 16, .inl qt) := by rw [hp8]; exact (vu_e (by first | decide | omega) (vu_e (by first | decide | omega) q3))
  refine lv_aload_n hx hb dX10_image_11 rfl (lv_at hl 0 rfl) ?_
  refine w_get (C := RX10) (T := TX10) (N := 12) 10 hx hb hts inX10 hown hw (by decide) o1_1 rfl (by decide) (hts _ tw_162) rfl dX10_image_12 ?_
  refine lv_aload_n hx hb dX10_image_15 rfl (lv_at hl 0 rfl) ?_
  refine w_get (C := RX10) (T := TX10) (N := 12) 2 hx hb hts inX10 hown hw (by decide) o1_1 rfl (by decide) (hts _ tw_154) rfl dX10_image_16 ?_
  refine cQv (rV (As := [_]) ⟨hx, hb, hml, hown, hts⟩ hw (k_X5_become_i l q1_1 q2_1 q3_1 r1_1 r2_1 r3_1) (cv_X5_become hts tw_860 rfl rfl ⟨Nat.le_of_ble_eq_true rfl, Nat.le_of_ble_eq_true rfl⟩) (by decide) q1_1 rfl rfl hl.1 rfl (by first | exact Nat.le_of_ble_eq_true rfl | decide) dX10_image_19 ⟨Nat.zero_le _, Nat.zero_le _⟩) hw hS (fun w2 H locs hp19 hw hS => ?_)
  have o1_2 : w2 0 = .inr (8, [.ref (gad G 1), .ref (gad G 3), .ref (gad G 5), .ref (gad G 8), .ref (gad G 9), .ref (gad G 11), .ref (gad G 16), .ref (gad G 18), .int (bi im), .ref (gad G 27), .ref (gad G 29), .int iz]) := by rw [hp19]; exact (vu_e (by first | decide | omega) (vu_e (by first | decide | omega) (vu_e (by first | decide | omega) o1_1)))
  have h1_2 : w2 1 = .inr (0, [.ref (gad G 2), .int (nI n)]) := by rw [hp19]; exact (vu_e (by first | decide | omega) (vu_e (by first | decide | omega) (vu_e (by first | decide | omega) h1_1)))
  have h2_2 : w2 2 = .inl (gI G, 132, .inl f) := by rw [hp19]; exact (vu_e (by first | decide | omega) (vu_e (by first | decide | omega) (vu_e (by first | decide | omega) h2_1)))
  have r1_2 : w2 5 = .inr (4, [.ref (gad G 6), .ref (gad G 7), .int (nI rn)]) := by rw [hp19]; exact (vu_e (by first | decide | omega) (vu_e (by first | decide | omega) (vu_e (by first | decide | omega) r1_1)))
  have r2_2 : w2 6 = .inl (gI G, 128, .inl rf) := by rw [hp19]; exact (vu_e (by first | decide | omega) (vu_e (by first | decide | omega) (vu_e (by first | decide | omega) r2_1)))
  have r3_2 : w2 7 = .inl (gI G, 16, .inl rt) := by rw [hp19]; exact (vu_e (by first | decide | omega) (vu_e (by first | decide | omega) (vu_e (by first | decide | omega) r3_1)))
  have z1_2 : w2 8 = .inr (1, [.int z]) := by rw [hp19]; exact (vu_e (by first | decide | omega) (vu_e (by first | decide | omega) (vu_e (by first | decide | omega) z1_1)))
  have i1_2 : w2 27 = .inr (0, [.ref (gad G 28), .int (nI n)]) := by rw [hp19]; exact (vu_e (by first | decide | omega) (vu_e (by first | decide | omega) (vu_e (by first | decide | omega) i1_1)))
  have i2_2 : w2 28 = .inl (gI G, 132, .inl f) := by rw [hp19]; exact (vu_e (by first | decide | omega) (vu_e (by first | decide | omega) (vu_e (by first | decide | omega) i2_1)))
  have q1_2 : w2 29 = .inr (4, [.ref (gad G 30), .ref (gad G 31), .int (nI rn)]) := by rw [hp19]; exact vu_e (by decide) (vu_e (by decide) vu_s)
  have q2_2 : w2 30 = .inl (gI G, 128, .inl rf) := by rw [hp19]; exact vu_e (by decide) vu_s
  have q3_2 : w2 31 = .inl (gI G, 16, .inl rt) := by rw [hp19]; exact vu_s
  refine lv_aload_n hx hb dX10_image_22 rfl (lv_at hl 0 rfl) ?_
  refine lv_aload_n hx hb dX10_image_23 rfl (lv_at hl 0 rfl) ?_
  refine w_get (C := RX10) (T := TX10) (N := 12) 3 hx hb hts inX10 hown hw (by decide) o1_2 rfl (by decide) (hts _ tw_155) rfl dX10_image_24 ?_
  refine w_get (C := RX2) (T := TX2) (N := 1) 0 hx hb hts inX2 hown hw (by decide) z1_2 rfl (by decide) (hts _ tw_67) rfl dX10_image_27 ?_
  refine w_put (C := RX10) (T := TX10) (N := 12) (v := .int z) 11 tyX10 hx hb hts inX10 tyX10_ok nmX10 hown hw hX hS (by decide) o1_2 rfl (by decide) (hts _ tw_163) rfl rfl (rfl) (rfl) (Nat.le_of_ble_eq_true rfl) dX10_image_30 (fun H locs hw hS => ?_)
  obtain ⟨w4, ew4⟩ : ∃ wz9 : Nat → va_E, wz9 = va_up w2 0 (.inr (8, [.ref (gad G 1), .ref (gad G 3), .ref (gad G 5), .ref (gad G 8), .ref (gad G 9), .ref (gad G 11), .ref (gad G 16), .ref (gad G 18), .int (bi im), .ref (gad G 27), .ref (gad G 29), .int z])) := ⟨_, rfl⟩
  have hw : Hw G w4 s H := by rw [ew4]; exact hw
  have o1_4 : w4 0 = .inr (8, [.ref (gad G 1), .ref (gad G 3), .ref (gad G 5), .ref (gad G 8), .ref (gad G 9), .ref (gad G 11), .ref (gad G 16), .ref (gad G 18), .int (bi im), .ref (gad G 27), .ref (gad G 29), .int z]) := by rw [ew4]; exact vu_s
  have h1_4 : w4 1 = .inr (0, [.ref (gad G 2), .int (nI n)]) := by rw [ew4]; exact vu_e (by decide) h1_2
  have h2_4 : w4 2 = .inl (gI G, 132, .inl f) := by rw [ew4]; exact vu_e (by decide) h2_2
  have r1_4 : w4 5 = .inr (4, [.ref (gad G 6), .ref (gad G 7), .int (nI rn)]) := by rw [ew4]; exact vu_e (by decide) r1_2
  have r2_4 : w4 6 = .inl (gI G, 128, .inl rf) := by rw [ew4]; exact vu_e (by decide) r2_2
  have r3_4 : w4 7 = .inl (gI G, 16, .inl rt) := by rw [ew4]; exact vu_e (by decide) r3_2
  have z1_4 : w4 8 = .inr (1, [.int z]) := by rw [ew4]; exact vu_e (by decide) z1_2
  have i1_4 : w4 27 = .inr (0, [.ref (gad G 28), .int (nI n)]) := by rw [ew4]; exact vu_e (by decide) i1_2
  have i2_4 : w4 28 = .inl (gI G, 132, .inl f) := by rw [ew4]; exact vu_e (by decide) i2_2
  have q1_4 : w4 29 = .inr (4, [.ref (gad G 30), .ref (gad G 31), .int (nI rn)]) := by rw [ew4]; exact vu_e (by decide) q1_2
  have q2_4 : w4 30 = .inl (gI G, 128, .inl rf) := by rw [ew4]; exact vu_e (by decide) q2_2
  have q3_4 : w4 31 = .inl (gI G, 16, .inl rt) := by rw [ew4]; exact vu_e (by decide) q3_2
  refine lv_aload_n hx hb dX10_image_33 rfl (lv_at hl 0 rfl) ?_
  refine lv_iconst (v := 1) hx hb dX10_image_34 (by decide) ?_
  refine w_put (C := RX10) (T := TX10) (N := 12) (v := .int (bi true)) 8 tyX10 hx hb hts inX10 tyX10_ok nmX10 hown hw hX hS (by decide) o1_4 rfl (by decide) (hts _ tw_160) rfl rfl (rfl) (rfl) (Nat.le_of_ble_eq_true rfl) dX10_image_35 (fun H locs hw hS => ?_)
  obtain ⟨w6, ew6⟩ : ∃ wz9 : Nat → va_E, wz9 = va_up w4 0 (.inr (8, [.ref (gad G 1), .ref (gad G 3), .ref (gad G 5), .ref (gad G 8), .ref (gad G 9), .ref (gad G 11), .ref (gad G 16), .ref (gad G 18), .int (bi true), .ref (gad G 27), .ref (gad G 29), .int z])) := ⟨_, rfl⟩
  have hw : Hw G w6 s H := by rw [ew6]; exact hw
  have o1_6 : w6 0 = .inr (8, [.ref (gad G 1), .ref (gad G 3), .ref (gad G 5), .ref (gad G 8), .ref (gad G 9), .ref (gad G 11), .ref (gad G 16), .ref (gad G 18), .int (bi true), .ref (gad G 27), .ref (gad G 29), .int z]) := by rw [ew6]; exact vu_s
  have h1_6 : w6 1 = .inr (0, [.ref (gad G 2), .int (nI n)]) := by rw [ew6]; exact vu_e (by decide) h1_4
  have h2_6 : w6 2 = .inl (gI G, 132, .inl f) := by rw [ew6]; exact vu_e (by decide) h2_4
  have r1_6 : w6 5 = .inr (4, [.ref (gad G 6), .ref (gad G 7), .int (nI rn)]) := by rw [ew6]; exact vu_e (by decide) r1_4
  have r2_6 : w6 6 = .inl (gI G, 128, .inl rf) := by rw [ew6]; exact vu_e (by decide) r2_4
  have r3_6 : w6 7 = .inl (gI G, 16, .inl rt) := by rw [ew6]; exact vu_e (by decide) r3_4
  have z1_6 : w6 8 = .inr (1, [.int z]) := by rw [ew6]; exact vu_e (by decide) z1_4
  have i1_6 : w6 27 = .inr (0, [.ref (gad G 28), .int (nI n)]) := by rw [ew6]; exact vu_e (by decide) i1_4
  have i2_6 : w6 28 = .inl (gI G, 132, .inl f) := by rw [ew6]; exact vu_e (by decide) i2_4
  have q1_6 : w6 29 = .inr (4, [.ref (gad G 30), .ref (gad G 31), .int (nI rn)]) := by rw [ew6]; exact vu_e (by decide) q1_4
  have q2_6 : w6 30 = .inl (gI G, 128, .inl rf) := by rw [ew6]; exact vu_e (by decide) q2_4
  have q3_6 : w6 31 = .inl (gI G, 16, .inl rt) := by rw [ew6]; exact vu_e (by decide) q3_4
  refine lv_aload_n hx hb dX10_image_38 rfl (lv_at hl 0 rfl) ?_
  refine w_get (C := RX10) (T := TX10) (N := 12) 0 hx hb hts inX10 hown hw (by decide) o1_6 rfl (by decide) (hts _ tw_152) rfl dX10_image_39 ?_
  refine cSe (rV (As := []) ⟨hx, hb, hml, hown, hts⟩ hw (k_X1_size l (by decide) (by decide) h1_6 h2_6 hn) (cv_X1_size hts tw_252 rfl rfl ⟨Nat.le_of_ble_eq_true rfl, Nat.le_of_ble_eq_true rfl⟩) (by decide) h1_6 rfl rfl hl.1 rfl (by first | exact Nat.le_of_ble_eq_true rfl | decide) dX10_image_42 ⟨Nat.zero_le _, Nat.zero_le _⟩) ?_
  exact re_Q hx hb hr hlocks (rfl) hw hS dX10_image_45 (⟨rfl, by rw [ew6, ew4, up_up, hp19, hp8]⟩)
set_option maxHeartbeats 4000000 in
set_option maxRecDepth 100000 in
theorem k_X10_back (l : Launch) {G : GT} {c : Nat → va_E} {im : Bool} {iz : Int32} (o1 : c 0 = .inr (8, [.ref (gad G 1), .ref (gad G 3), .ref (gad G 5), .ref (gad G 8), .ref (gad G 9), .ref (gad G 11), .ref (gad G 16), .ref (gad G 18), .int (bi im), .ref (gad G 27), .ref (gad G 29), .int iz])) {n : Nat} {f : Nat → Int32} (h1 : c 1 = .inr (0, [.ref (gad G 2), .int (nI n)])) (h2 : c 2 = .inl (gI G, 132, .inl f)) (hn : n ≤ 12) {rn : Nat} {rf rt : Nat → Int32} (r1 : c 5 = .inr (4, [.ref (gad G 6), .ref (gad G 7), .int (nI rn)])) (r2 : c 6 = .inl (gI G, 128, .inl rf)) (r3 : c 7 = .inl (gI G, 16, .inl rt)) (hrn : rn ≤ 16) {z : Int32} (z1 : c 8 = .inr (1, [.int z])) {n2 : Nat} {f2 : Nat → Int32} (i1 : c 27 = .inr (0, [.ref (gad G 28), .int (nI n2)])) (i2 : c 28 = .inl (gI G, 132, .inl f2)) {qn : Nat} {qf qt : Nat → Int32} (q1 : c 29 = .inr (4, [.ref (gad G 30), .ref (gad G 31), .int (nI qn)])) (q2 : c 30 = .inl (gI G, 128, .inl qf)) (q3 : c 31 = .inl (gI G, 16, .inl qt)) (hn2 : n2 ≤ 12) : Met l yX10_back (wv yX10_back cX10_back 1 (some .int)) ({ frames := 2, cells := 0, slots := 0, locals := 47 } : Room) (va_Pc [.ref (gad G 0)] (fun U => Hw G c U U.heap)) (va_Qi (fun r (c9 : Nat → va_E) => (im = false ∧ r = -3 ∧ c9 = c) ∨ (im = true ∧ r = nI n2 ∧ c9 = va_up (va_up (va_up (va_up (va_up (va_up c 1 (.inr (0, [.ref (gad G 2), .int (nI n2)]))) 2 (.inl (gI G, 132, .inl f2))) 5 (.inr (4, [.ref (gad G 6), .ref (gad G 7), .int (nI qn)]))) 6 (.inl (gI G, 128, .inl qf))) 7 (.inl (gI G, 16, .inl qt))) 8 (.inr (1, [.int iz])))) (fun c9 t => Hw G c9 t t.heap) (gA G)) 0 0 (gA G) := by
  refine en (by decide +kernel) (by first | exact Nat.le_of_ble_eq_true rfl | decide) ?_
  intro p e s m below meth cd ls hx hb hr hml hown hts hlocks hnm hw hl
  have hl : lv_has ls 1 [(0, .ref (gad G 0))] := hl
  have hX : Sw G s s.heap := hw.2.2.2.2.2
  have hS : va_S (gA G) s.heap s.heap [] := va_S.rf
  obtain ⟨H, hH⟩ : ∃ wz9, wz9 = s.heap := ⟨_, rfl⟩
  obtain ⟨locs, hlocs⟩ : ∃ wz9 : List Loc, wz9 = [] := ⟨_, rfl⟩
  have hw : Hw G c s H := by rw [hH]; exact hw
  have hS : va_S (gA G) s.heap H locs := by rw [hH, hlocs]; exact hS
  suffices hgo : W p l e ({ frames := 2, cells := 0, slots := 0, locals := 47 } : Room) s m (([.ref (gad G 0)] : List Value).toArray) below meth cd H locs 0 0 (MQ below (va_Qi (fun r (c9 : Nat → va_E) => (im = false ∧ r = -3 ∧ c9 = c) ∨ (im = true ∧ r = nI n2 ∧ c9 = va_up (va_up (va_up (va_up (va_up (va_up c 1 (.inr (0, [.ref (gad G 2), .int (nI n2)]))) 2 (.inl (gI G, 132, .inl f2))) 5 (.inr (4, [.ref (gad G 6), .ref (gad G 7), .int (nI qn)]))) 6 (.inl (gI G, 128, .inl qf))) 7 (.inl (gI G, 16, .inl qt))) 8 (.inr (1, [.int iz])))) (fun c9 t => Hw G c9 t t.heap) (gA G)) ([.ref (gad G 0)] : List Value).toArray s 0 0 (gA G)) (F0 m 0 ls []) by rw [hH, hlocs] at hgo; exact hgo
  refine lv_aload_n hx hb dX10_back_0 rfl (lv_at hl 0 rfl) ?_
  refine w_get (C := RX10) (T := TX10) (N := 12) 8 hx hb hts inX10 hown hw (by decide) o1 rfl (by decide) (hts _ tw_160) rfl dX10_back_1 ?_
  refine zb_ne (tgt := 10) hx hb dX10_back_4 (by decide) (fun c4 => ?_) (fun c4 => ?_)
  · refine lv_aload_n hx hb dX10_back_10 rfl (lv_at hl 0 rfl) ?_
    refine w_get (C := RX10) (T := TX10) (N := 12) 0 hx hb hts inX10 hown hw (by decide) o1 rfl (by decide) (hts _ tw_152) rfl dX10_back_11 ?_
    refine lv_aload_n hx hb dX10_back_14 rfl (lv_at hl 0 rfl) ?_
    refine w_get (C := RX10) (T := TX10) (N := 12) 9 hx hb hts inX10 hown hw (by decide) o1 rfl (by decide) (hts _ tw_161) rfl dX10_back_15 ?_
    refine cQv (rV (As := [_]) ⟨hx, hb, hml, hown, hts⟩ hw (k_X1_become_b l h1 h2 i1 i2) (cv_X1_become hts tw_485 rfl rfl ⟨Nat.le_of_ble_eq_true rfl, Nat.le_of_ble_eq_true rfl⟩) (by decide) h1 rfl rfl hl.1 rfl (by first | exact Nat.le_of_ble_eq_true rfl | decide) dX10_back_18 ⟨Nat.zero_le _, Nat.zero_le _⟩) hw hS (fun w1 H locs hp18 hw hS => ?_)
    have o1_1 : w1 0 = .inr (8, [.ref (gad G 1), .ref (gad G 3), .ref (gad G 5), .ref (gad G 8), .ref (gad G 9), .ref (gad G 11), .ref (gad G 16), .ref (gad G 18), .int (bi im), .ref (gad G 27), .ref (gad G 29), .int iz]) := by rw [hp18]; exact (vu_e (by first | decide | omega) (vu_e (by first | decide | omega) o1))
    have h1_1 : w1 1 = .inr (0, [.ref (gad G 2), .int (nI n2)]) := by rw [hp18]; exact vu_e (by decide) vu_s
    have h2_1 : w1 2 = .inl (gI G, 132, .inl f2) := by rw [hp18]; exact vu_s
    have r1_1 : w1 5 = .inr (4, [.ref (gad G 6), .ref (gad G 7), .int (nI rn)]) := by rw [hp18]; exact (vu_e (by first | decide | omega) (vu_e (by first | decide | omega) r1))
    have r2_1 : w1 6 = .inl (gI G, 128, .inl rf) := by rw [hp18]; exact (vu_e (by first | decide | omega) (vu_e (by first | decide | omega) r2))
    have r3_1 : w1 7 = .inl (gI G, 16, .inl rt) := by rw [hp18]; exact (vu_e (by first | decide | omega) (vu_e (by first | decide | omega) r3))
    have z1_1 : w1 8 = .inr (1, [.int z]) := by rw [hp18]; exact (vu_e (by first | decide | omega) (vu_e (by first | decide | omega) z1))
    have i1_1 : w1 27 = .inr (0, [.ref (gad G 28), .int (nI n2)]) := by rw [hp18]; exact (vu_e (by first | decide | omega) (vu_e (by first | decide | omega) i1))
    have i2_1 : w1 28 = .inl (gI G, 132, .inl f2) := by rw [hp18]; exact (vu_e (by first | decide | omega) (vu_e (by first | decide | omega) i2))
    have q1_1 : w1 29 = .inr (4, [.ref (gad G 30), .ref (gad G 31), .int (nI qn)]) := by rw [hp18]; exact (vu_e (by first | decide | omega) (vu_e (by first | decide | omega) q1))
    have q2_1 : w1 30 = .inl (gI G, 128, .inl qf) := by rw [hp18]; exact (vu_e (by first | decide | omega) (vu_e (by first | decide | omega) q2))
    have q3_1 : w1 31 = .inl (gI G, 16, .inl qt) := by rw [hp18]; exact (vu_e (by first | decide | omega) (vu_e (by first | decide | omega) q3))
    refine lv_aload_n hx hb dX10_back_21 rfl (lv_at hl 0 rfl) ?_
    refine w_get (C := RX10) (T := TX10) (N := 12) 2 hx hb hts inX10 hown hw (by decide) o1_1 rfl (by decide) (hts _ tw_154) rfl dX10_back_22 ?_
    refine lv_aload_n hx hb dX10_back_25 rfl (lv_at hl 0 rfl) ?_
    refine w_get (C := RX10) (T := TX10) (N := 12) 10 hx hb hts inX10 hown hw (by decide) o1_1 rfl (by decide) (hts _ tw_162) rfl dX10_back_26 ?_
    refine cQv (rV (As := [_]) ⟨hx, hb, hml, hown, hts⟩ hw (k_X5_become_b l r1_1 r2_1 r3_1 q1_1 q2_1 q3_1) (cv_X5_become hts tw_860 rfl rfl ⟨Nat.le_of_ble_eq_true rfl, Nat.le_of_ble_eq_true rfl⟩) (by decide) r1_1 rfl rfl hl.1 rfl (by first | exact Nat.le_of_ble_eq_true rfl | decide) dX10_back_29 ⟨Nat.zero_le _, Nat.zero_le _⟩) hw hS (fun w2 H locs hp29 hw hS => ?_)
    have o1_2 : w2 0 = .inr (8, [.ref (gad G 1), .ref (gad G 3), .ref (gad G 5), .ref (gad G 8), .ref (gad G 9), .ref (gad G 11), .ref (gad G 16), .ref (gad G 18), .int (bi im), .ref (gad G 27), .ref (gad G 29), .int iz]) := by rw [hp29]; exact (vu_e (by first | decide | omega) (vu_e (by first | decide | omega) (vu_e (by first | decide | omega) o1_1)))
    have h1_2 : w2 1 = .inr (0, [.ref (gad G 2), .int (nI n2)]) := by rw [hp29]; exact (vu_e (by first | decide | omega) (vu_e (by first | decide | omega) (vu_e (by first | decide | omega) h1_1)))
    have h2_2 : w2 2 = .inl (gI G, 132, .inl f2) := by rw [hp29]; exact (vu_e (by first | decide | omega) (vu_e (by first | decide | omega) (vu_e (by first | decide | omega) h2_1)))
    have r1_2 : w2 5 = .inr (4, [.ref (gad G 6), .ref (gad G 7), .int (nI qn)]) := by rw [hp29]; exact vu_e (by decide) (vu_e (by decide) vu_s)
    have r2_2 : w2 6 = .inl (gI G, 128, .inl qf) := by rw [hp29]; exact vu_e (by decide) vu_s
    have r3_2 : w2 7 = .inl (gI G, 16, .inl qt) := by rw [hp29]; exact vu_s
    have z1_2 : w2 8 = .inr (1, [.int z]) := by rw [hp29]; exact (vu_e (by first | decide | omega) (vu_e (by first | decide | omega) (vu_e (by first | decide | omega) z1_1)))
    have i1_2 : w2 27 = .inr (0, [.ref (gad G 28), .int (nI n2)]) := by rw [hp29]; exact (vu_e (by first | decide | omega) (vu_e (by first | decide | omega) (vu_e (by first | decide | omega) i1_1)))
    have i2_2 : w2 28 = .inl (gI G, 132, .inl f2) := by rw [hp29]; exact (vu_e (by first | decide | omega) (vu_e (by first | decide | omega) (vu_e (by first | decide | omega) i2_1)))
    have q1_2 : w2 29 = .inr (4, [.ref (gad G 30), .ref (gad G 31), .int (nI qn)]) := by rw [hp29]; exact (vu_e (by first | decide | omega) (vu_e (by first | decide | omega) (vu_e (by first | decide | omega) q1_1)))
    have q2_2 : w2 30 = .inl (gI G, 128, .inl qf) := by rw [hp29]; exact (vu_e (by first | decide | omega) (vu_e (by first | decide | omega) (vu_e (by first | decide | omega) q2_1)))
    have q3_2 : w2 31 = .inl (gI G, 16, .inl qt) := by rw [hp29]; exact (vu_e (by first | decide | omega) (vu_e (by first | decide | omega) (vu_e (by first | decide | omega) q3_1)))
    refine lv_aload_n hx hb dX10_back_32 rfl (lv_at hl 0 rfl) ?_
    refine w_get (C := RX10) (T := TX10) (N := 12) 3 hx hb hts inX10 hown hw (by decide) o1_2 rfl (by decide) (hts _ tw_155) rfl dX10_back_33 ?_
    refine lv_aload_n hx hb dX10_back_36 rfl (lv_at hl 0 rfl) ?_
    refine w_get (C := RX10) (T := TX10) (N := 12) 11 hx hb hts inX10 hown hw (by decide) o1_2 rfl (by decide) (hts _ tw_163) rfl dX10_back_37 ?_
    refine w_put (C := RX2) (T := TX2) (N := 1) (v := .int iz) 0 tyX2 hx hb hts inX2 tyX2_ok nmX2 hown hw hX hS (by decide) z1_2 rfl (by decide) (hts _ tw_67) rfl rfl (rfl) (rfl) (Nat.le_of_ble_eq_true rfl) dX10_back_40 (fun H locs hw hS => ?_)
    obtain ⟨w4, ew4⟩ : ∃ wz9 : Nat → va_E, wz9 = va_up w2 8 (.inr (1, [.int iz])) := ⟨_, rfl⟩
    have hw : Hw G w4 s H := by rw [ew4]; exact hw
    have o1_4 : w4 0 = .inr (8, [.ref (gad G 1), .ref (gad G 3), .ref (gad G 5), .ref (gad G 8), .ref (gad G 9), .ref (gad G 11), .ref (gad G 16), .ref (gad G 18), .int (bi im), .ref (gad G 27), .ref (gad G 29), .int iz]) := by rw [ew4]; exact vu_e (by decide) o1_2
    have h1_4 : w4 1 = .inr (0, [.ref (gad G 2), .int (nI n2)]) := by rw [ew4]; exact vu_e (by decide) h1_2
    have h2_4 : w4 2 = .inl (gI G, 132, .inl f2) := by rw [ew4]; exact vu_e (by decide) h2_2
    have r1_4 : w4 5 = .inr (4, [.ref (gad G 6), .ref (gad G 7), .int (nI qn)]) := by rw [ew4]; exact vu_e (by decide) r1_2
    have r2_4 : w4 6 = .inl (gI G, 128, .inl qf) := by rw [ew4]; exact vu_e (by decide) r2_2
    have r3_4 : w4 7 = .inl (gI G, 16, .inl qt) := by rw [ew4]; exact vu_e (by decide) r3_2
    have z1_4 : w4 8 = .inr (1, [.int iz]) := by rw [ew4]; exact vu_s
    have i1_4 : w4 27 = .inr (0, [.ref (gad G 28), .int (nI n2)]) := by rw [ew4]; exact vu_e (by decide) i1_2
    have i2_4 : w4 28 = .inl (gI G, 132, .inl f2) := by rw [ew4]; exact vu_e (by decide) i2_2
    have q1_4 : w4 29 = .inr (4, [.ref (gad G 30), .ref (gad G 31), .int (nI qn)]) := by rw [ew4]; exact vu_e (by decide) q1_2
    have q2_4 : w4 30 = .inl (gI G, 128, .inl qf) := by rw [ew4]; exact vu_e (by decide) q2_2
    have q3_4 : w4 31 = .inl (gI G, 16, .inl qt) := by rw [ew4]; exact vu_e (by decide) q3_2
    refine lv_aload_n hx hb dX10_back_43 rfl (lv_at hl 0 rfl) ?_
    refine w_get (C := RX10) (T := TX10) (N := 12) 0 hx hb hts inX10 hown hw (by decide) o1_4 rfl (by decide) (hts _ tw_152) rfl dX10_back_44 ?_
    refine cSe (rV (As := []) ⟨hx, hb, hml, hown, hts⟩ hw (k_X1_size l (by decide) (by decide) h1_4 h2_4 hn2) (cv_X1_size hts tw_252 rfl rfl ⟨Nat.le_of_ble_eq_true rfl, Nat.le_of_ble_eq_true rfl⟩) (by decide) h1_4 rfl rfl hl.1 rfl (by first | exact Nat.le_of_ble_eq_true rfl | decide) dX10_back_47 ⟨Nat.zero_le _, Nat.zero_le _⟩) ?_
    exact re_Q hx hb hr hlocks (rfl) hw hS dX10_back_50 (Or.inr ⟨c4, rfl, by rw [ew4, hp29, hp18]⟩)
  · refine lv_bipush (v := (-3)) hx hb dX10_back_7 (by decide) ?_
    exact re_Q hx hb hr hlocks (rfl) hw hS dX10_back_9 (Or.inl ⟨c4, rfl, rfl⟩)
set_option maxHeartbeats 4000000 in
set_option maxRecDepth 100000 in
theorem k_X10_count (l : Launch) {G : GT} {c : Nat → va_E} {im : Bool} {iz : Int32} (o1 : c 0 = .inr (8, [.ref (gad G 1), .ref (gad G 3), .ref (gad G 5), .ref (gad G 8), .ref (gad G 9), .ref (gad G 11), .ref (gad G 16), .ref (gad G 18), .int (bi im), .ref (gad G 27), .ref (gad G 29), .int iz])) {n : Nat} {f : Nat → Int32} (h1 : c 1 = .inr (0, [.ref (gad G 2), .int (nI n)])) (h2 : c 2 = .inl (gI G, 132, .inl f)) (hn : n ≤ 12) {rn : Nat} {rf rt : Nat → Int32} (r1 : c 5 = .inr (4, [.ref (gad G 6), .ref (gad G 7), .int (nI rn)])) (r2 : c 6 = .inl (gI G, 128, .inl rf)) (r3 : c 7 = .inl (gI G, 16, .inl rt)) (hrn : rn ≤ 16) {z : Int32} (z1 : c 8 = .inr (1, [.int z])) {tn : Nat} {tf : Nat → Int32} (t1 : c 9 = .inr (6, [.ref (gad G 10), .int (nI tn)])) (t2 : c 10 = .inl (gI G, 120, .inl tf)) (htn : tn ≤ 120) {w : Int32} : Met l yX10_count (wv yX10_count cX10_count 2 (some .int)) ({ frames := 1, cells := 0, slots := 0, locals := 20 } : Room) (va_Pc [.ref (gad G 0), .int w] (fun U => Hw G c U U.heap)) (vp_Si (fun r => r = if w = 0 then nI n else if w = 1 then nI rn else if w = 2 then nI tn else if w = 3 then z else -2)) 0 0 (fun _ => False) := by
  refine en (by decide +kernel) (by first | exact Nat.le_of_ble_eq_true rfl | decide) ?_
  intro p e s m below meth cd ls hx hb hr hml hown hts hlocks hnm hw hl
  have hl : lv_has ls 2 [(0, .ref (gad G 0)), (1, .int w)] := hl
  refine lv_iload_n hx hb dX10_count_0 rfl (lv_at hl 1 rfl) ?_
  by_cases hs1 : w.toInt < 0 ∨ 3 < w.toInt
  · refine lv_tableOut (tgt := 64) hx hb dX10_count_1 hs1 (by decide) ?_
    refine lv_bipush (v := (-2)) hx hb dX10_count_64 (by decide) ?_
    exact re_S hx hb hr hlocks (rfl) dX10_count_66 (by obtain ⟨y0, y1, y2, y3⟩ := sw3 hs1; rw [if_neg y0, if_neg y1, if_neg y2, if_neg y3])
  · have hz1 : w.toInt = 0 ∨ w.toInt = 1 ∨ w.toInt = 2 ∨ w.toInt = 3 := by omega
    rcases hz1 with hz1 | hz1 | hz1 | hz1
    · refine lv_tableIn (off := 31) (tgt := 32) hx hb dX10_count_1 (by omega) (by omega) (by rw [hz1]; rfl) (by decide) ?_
      have hz1 : w = 0 := Int32.toInt_inj.mp (hz1.trans rfl)
      refine lv_aload_n hx hb dX10_count_32 rfl (lv_at hl 0 rfl) ?_
      refine w_get (C := RX10) (T := TX10) (N := 12) 0 hx hb hts inX10 hown hw (by decide) o1 rfl (by decide) (hts _ tw_152) rfl dX10_count_33 ?_
      refine cSe (rV (As := []) ⟨hx, hb, hml, hown, hts⟩ hw (k_X1_size l (by decide) (by decide) h1 h2 hn) (cv_X1_size hts tw_252 rfl rfl ⟨Nat.le_of_ble_eq_true rfl, Nat.le_of_ble_eq_true rfl⟩) (by decide) h1 rfl rfl hl.1 rfl (by first | exact Nat.le_of_ble_eq_true rfl | decide) dX10_count_36 ⟨Nat.zero_le _, Nat.zero_le _⟩) ?_
      exact re_S hx hb hr hlocks (rfl) dX10_count_39 (by rw [hz1]; rfl)
    · refine lv_tableIn (off := 39) (tgt := 40) hx hb dX10_count_1 (by omega) (by omega) (by rw [hz1]; rfl) (by decide) ?_
      have hz1 : w = 1 := Int32.toInt_inj.mp (hz1.trans rfl)
      refine lv_aload_n hx hb dX10_count_40 rfl (lv_at hl 0 rfl) ?_
      refine w_get (C := RX10) (T := TX10) (N := 12) 2 hx hb hts inX10 hown hw (by decide) o1 rfl (by decide) (hts _ tw_154) rfl dX10_count_41 ?_
      refine cSe (rV (As := []) ⟨hx, hb, hml, hown, hts⟩ hw (k_X5_size l r1 r2 r3 hrn) (cv_X5_size hts tw_569 rfl rfl ⟨Nat.le_of_ble_eq_true rfl, Nat.le_of_ble_eq_true rfl⟩) (by decide) r1 rfl rfl hl.1 rfl (by first | exact Nat.le_of_ble_eq_true rfl | decide) dX10_count_44 ⟨Nat.zero_le _, Nat.zero_le _⟩) ?_
      exact re_S hx hb hr hlocks (rfl) dX10_count_47 (by rw [hz1]; rfl)
    · refine lv_tableIn (off := 47) (tgt := 48) hx hb dX10_count_1 (by omega) (by omega) (by rw [hz1]; rfl) (by decide) ?_
      have hz1 : w = 2 := Int32.toInt_inj.mp (hz1.trans rfl)
      refine lv_aload_n hx hb dX10_count_48 rfl (lv_at hl 0 rfl) ?_
      refine w_get (C := RX10) (T := TX10) (N := 12) 4 hx hb hts inX10 hown hw (by decide) o1 rfl (by decide) (hts _ tw_156) rfl dX10_count_49 ?_
      refine cSe (rV (As := []) ⟨hx, hb, hml, hown, hts⟩ hw (k_X7_size l t1 t2 htn) (cv_X7_size hts tw_581 rfl rfl ⟨Nat.le_of_ble_eq_true rfl, Nat.le_of_ble_eq_true rfl⟩) (by decide) t1 rfl rfl hl.1 rfl (by first | exact Nat.le_of_ble_eq_true rfl | decide) dX10_count_52 ⟨Nat.zero_le _, Nat.zero_le _⟩) ?_
      exact re_S hx hb hr hlocks (rfl) dX10_count_55 (by rw [hz1]; rfl)
    · refine lv_tableIn (off := 55) (tgt := 56) hx hb dX10_count_1 (by omega) (by omega) (by rw [hz1]; rfl) (by decide) ?_
      have hz1 : w = 3 := Int32.toInt_inj.mp (hz1.trans rfl)
      refine lv_aload_n hx hb dX10_count_56 rfl (lv_at hl 0 rfl) ?_
      refine w_get (C := RX10) (T := TX10) (N := 12) 3 hx hb hts inX10 hown hw (by decide) o1 rfl (by decide) (hts _ tw_155) rfl dX10_count_57 ?_
      refine w_get (C := RX2) (T := TX2) (N := 1) 0 hx hb hts inX2 hown hw (by decide) z1 rfl (by decide) (hts _ tw_67) rfl dX10_count_60 ?_
      exact re_S hx hb hr hlocks (rfl) dX10_count_63 (by rw [hz1]; rfl)
