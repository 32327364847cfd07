/-! leaves without a heap: what numbers may be, traits -/
def wn (v a b : Int32) : Bool := !decide (v < a) && !decide (b < v)
def isP (p : Int32) : Bool := wn p 0 25599999
def isDy (d : Int32) : Bool := wn d 0 999
def isSh (t : Int32) : Bool := wn t 0 3
def tlast (t : Int32) : Int32 := if t = 0 then 99 else if t = 1 then 99 else if t = 2 then 9 else if t = 3 then 7 else 31
/-- a trait of a profile -/
def trN (p : Nat) (t : Int32) : Nat := if t = 0 then p % 100 else if t = 1 then p / 100 % 100 else if t = 2 then p / 10000 % 10 else if t = 3 then p / 100000 % 8 else p / 800000
def bt (x : Int32) (i : Nat) : Bool := x.toBitVec.getLsbD i
theorem b_ext {x y : Int32} (h : ∀ i, i < 32 → bt x i = bt y i) : x = y := Int32.toBitVec_inj.mp (BitVec.eq_of_getLsbD_eq (fun i hi => h i hi))
theorem b_or (x y : Int32) (i : Nat) : bt (x ||| y) i = (bt x i || bt y i) := by unfold bt; rw [Int32.toBitVec_or, BitVec.getLsbD_or]
theorem b_and (x y : Int32) (i : Nat) : bt (x &&& y) i = (bt x i && bt y i) := by unfold bt; rw [Int32.toBitVec_and, BitVec.getLsbD_and]
theorem b_xor (x y : Int32) (i : Nat) : bt (x ^^^ y) i = (bt x i ^^ bt y i) := by unfold bt; rw [Int32.toBitVec_xor, BitVec.getLsbD_xor]
theorem b_big {x : Int32} {i : Nat} (h : 32 ≤ i) : bt x i = false := BitVec.getLsbD_of_ge _ _ h
theorem b_255 (i : Nat) : bt 255 i = decide (i < 8) := by
  rcases Nat.lt_or_ge i 32 with h | h
  · exact (by decide +kernel : ∀ i, i < 32 → bt 255 i = decide (i < 8)) i h
  · rw [b_big h, decide_eq_false (by omega)]
theorem b_65535 (i : Nat) : bt 65535 i = decide (i < 16) := by
  rcases Nat.lt_or_ge i 32 with h | h
  · exact (by decide +kernel : ∀ i, i < 32 → bt 65535 i = decide (i < 16)) i h
  · rw [b_big h, decide_eq_false (by omega)]
theorem b_m1 : ∀ i, i < 32 → bt (-1) i = true := by decide +kernel
theorem b_0 (i : Nat) : bt 0 i = false := BitVec.getLsbD_zero
theorem s_l : ∀ n, n < 32 → ((nI n &&& 31).toBitVec.smod 32).toNat = n := by decide +kernel
theorem s_u : ∀ n, n < 32 → (((nI n).toUInt32 &&& Int32.toUInt32 31).toBitVec % 32).toNat = n := by decide +kernel
theorem b_shl (n : Nat) (hn : n < 32) (x : Int32) {i : Nat} (hi : i < 32) : bt (x <<< (nI n &&& 31)) i = (decide (n ≤ i) && bt x (i - n)) := by
  unfold bt
  rw [Int32.toBitVec_shiftLeft]
  show (x.toBitVec <<< ((nI n &&& 31).toBitVec.smod 32).toNat).getLsbD i = _
  rw [s_l n hn, BitVec.getLsbD_shiftLeft]
  rcases Nat.lt_or_ge i n with h | h
  · simp [h, Nat.not_le.mpr h]
  · simp [hi, h, Nat.not_lt.mpr h]
theorem b_ushr (n : Nat) (hn : n < 32) (x : Int32) (i : Nat) : bt ((x.toUInt32 >>> ((nI n).toUInt32 &&& Int32.toUInt32 31)).toInt32) i = bt x (n + i) := by
  show (x.toUInt32 >>> ((nI n).toUInt32 &&& Int32.toUInt32 31)).toBitVec.getLsbD i = x.toUInt32.toBitVec.getLsbD (n + i)
  rw [UInt32.toBitVec_shiftRight]
  show (x.toUInt32.toBitVec >>> (((nI n).toUInt32 &&& Int32.toUInt32 31).toBitVec % 32).toNat).getLsbD i = _
  rw [s_u n hn, BitVec.getLsbD_ushiftRight]
theorem b_sshr (n : Nat) (hn : n < 32) (x : Int32) {i : Nat} (hi : i < 32) : bt (x >>> (nI n &&& 31)) i = if n + i < 32 then bt x (n + i) else bt x 31 := by
  unfold bt
  rw [Int32.toBitVec_shiftRight]
  show (x.toBitVec.sshiftRight ((nI n &&& 31).toBitVec.smod 32).toNat).getLsbD i = _
  rw [s_l n hn, BitVec.getLsbD_sshiftRight, BitVec.msb_eq_getLsbD_last]
  simp [hi]
theorem b_shl8 (x : Int32) {i : Nat} (hi : i < 32) : bt (x <<< ((8 : Int32) &&& 31)) i = (decide (8 ≤ i) && bt x (i - 8)) := b_shl 8 (by omega) x hi
theorem b_shl16 (x : Int32) {i : Nat} (hi : i < 32) : bt (x <<< ((16 : Int32) &&& 31)) i = (decide (16 ≤ i) && bt x (i - 16)) := b_shl 16 (by omega) x hi
theorem b_shl24 (x : Int32) {i : Nat} (hi : i < 32) : bt (x <<< ((24 : Int32) &&& 31)) i = (decide (24 ≤ i) && bt x (i - 24)) := b_shl 24 (by omega) x hi
theorem b_sshr8 (x : Int32) {i : Nat} (hi : i < 32) : bt (x >>> ((8 : Int32) &&& 31)) i = if 8 + i < 32 then bt x (8 + i) else bt x 31 := b_sshr 8 (by omega) x hi
/-! PURE: what the methods answer, as functions of the cells -/
theorem ix (c k : Nat) : nI c * 11 + nI k = nI (c * 11 + k) := by
  show nI c * nI 11 + nI k = _
  rw [pk_mul, nI_add]
theorem ixm (c k : Nat) : 11 * nI c + nI k = nI (c * 11 + k) := by
  show nI 11 * nI c + nI k = _
  rw [pk_mul, nI_add, Nat.mul_comm]
theorem ix8 (c k : Nat) : nI c * 8 + nI k = nI (c * 8 + k) := by
  show nI c * nI 8 + nI k = _
  rw [pk_mul, nI_add]
theorem ixm8 (c k : Nat) : 8 * nI c + nI k = nI (c * 8 + k) := by
  show nI 8 * nI c + nI k = _
  rw [pk_mul, nI_add, Nat.mul_comm]
theorem inc1 (i : Nat) : nI i + Int32.ofInt 1 = nI (i + 1) := nI_1 i
theorem incm (x : Int32) : x + Int32.ofInt (-1) = x - 1 := by rw [Int32.sub_eq_add_neg]; rfl
theorem sw2 {t : Int32} (h : t.toInt < 0 ∨ 2 < t.toInt) : t ≠ 0 ∧ t ≠ 1 ∧ t ≠ 2 := by
  refine ⟨?_, ?_, ?_⟩ <;> (rintro rfl; revert h; decide)
theorem sw3 {t : Int32} (h : t.toInt < 0 ∨ 3 < t.toInt) : t ≠ 0 ∧ t ≠ 1 ∧ t ≠ 2 ∧ t ≠ 3 := by
  refine ⟨?_, ?_, ?_, ?_⟩ <;> (rintro rfl; revert h; decide)
theorem sw4 {t : Int32} (h : t.toInt < 0 ∨ 4 < t.toInt) : t ≠ 0 ∧ t ≠ 1 ∧ t ≠ 2 ∧ t ≠ 3 ∧ t ≠ 4 := by
  refine ⟨?_, ?_, ?_, ?_, ?_⟩ <;> (rintro rfl; revert h; decide)
theorem sw5 {t : Int32} (h : t.toInt < 0 ∨ 5 < t.toInt) : t ≠ 0 ∧ t ≠ 1 ∧ t ≠ 2 ∧ t ≠ 3 ∧ t ≠ 4 ∧ t ≠ 5 := by
  refine ⟨?_, ?_, ?_, ?_, ?_, ?_⟩ <;> (rintro rfl; revert h; decide)
def wtN (t : Int32) : Nat := if t = 0 then 1 else if t = 1 then 100 else if t = 2 then 10000 else if t = 3 then 100000 else 800000
def szN (t : Int32) : Nat := if t = 0 then 100 else if t = 1 then 100 else if t = 2 then 10 else if t = 3 then 8 else 32
/-- a profile with another number of one trait -/
def wthN (p : Nat) (t : Int32) (v : Nat) : Nat := p + v * wtN t - trN p t * wtN t
theorem tr_le {p : Nat} {t : Int32} (ht : t = 0 ∨ t = 1 ∨ t = 2 ∨ t = 3) : trN p t * wtN t ≤ p := by
  rcases ht with rfl | rfl | rfl | rfl
  · show p % 100 * 1 ≤ p
    omega
  · show p / 100 % 100 * 100 ≤ p
    omega
  · show p / 10000 % 10 * 10000 ≤ p
    omega
  · show p / 100000 % 8 * 100000 ≤ p
    omega
theorem wth_eq {p v : Nat} {t : Int32} (ht : t = 0 ∨ t = 1 ∨ t = 2 ∨ t = 3) : nI p + (nI v - nI (trN p t)) * nI (wtN t) = nI (wthN p t v) := by
  have h := tr_le (p := p) ht
  unfold wthN
  generalize wtN t = w at h ⊢
  generalize trN p t = r at h ⊢
  have e : nI p = nI (p - r * w) + nI r * nI w := by rw [pk_mul, nI_add]; congr 1; omega
  rw [e, show p + v * w - r * w = (p - r * w) + v * w by omega, ← nI_add, ← pk_mul]
  generalize nI (p - r * w) = a
  generalize nI v = b
  generalize nI r = d
  generalize nI w = f
  rw [Int32.sub_mul]
  rw [Int32.add_assoc, Int32.add_comm (d * f), Int32.sub_add_cancel]
theorem wth_lt {p v : Nat} {t : Int32} (hp : p < 25600000) (ht : t = 0 ∨ t = 1 ∨ t = 2 ∨ t = 3) (hv : v < szN t) : wthN p t v < 25600000 := by
  rcases ht with rfl | rfl | rfl | rfl
  · show p + v * 1 - p % 100 * 1 < _
    have : v < 100 := hv
    omega
  · show p + v * 100 - p / 100 % 100 * 100 < _
    have : v < 100 := hv
    omega
  · show p + v * 10000 - p / 10000 % 10 * 10000 < _
    have : v < 10 := hv
    omega
  · show p + v * 100000 - p / 100000 % 8 * 100000 < _
    have : v < 8 := hv
    omega
theorem tr_lt {p : Nat} {t : Int32} (hp : p < 25600000) : trN p t < 100 := by
  unfold trN
  repeat' split
  all_goals omega
/-- bits of sets -/
def isn (h x : Int32) : Bool := decide ((h >>> (x &&& 31)) &&& 1 = 1)
def mskU (P : Nat → Bool) : Nat → Int32
  | 0 => 0
  | k + 1 => if P k then mskU P k ||| ((1 : Int32) <<< (nI k &&& 31)) else mskU P k
def sumU (P : Nat → Bool) (w : Nat → Int32) : Nat → Int32
  | 0 => 0
  | k + 1 => if P k then sumU P w k + w k else sumU P w k
def allU (P : Nat → Bool) : Nat → Bool
  | 0 => true
  | k + 1 => allU P k && P k
def anyU (P : Nat → Bool) : Nat → Bool
  | 0 => false
  | k + 1 => anyU P k || P k
def cntU (P : Nat → Bool) : Nat → Nat
  | 0 => 0
  | k + 1 => if P k then cntU P k + 1 else cntU P k
/-- the first place, or -1 -/
def fstU (P : Nat → Bool) : Nat → Int32
  | 0 => -1
  | k + 1 => if fstU P k = -1 && P k then nI k else fstU P k
theorem allU_f {P : Nat → Bool} {i : Nat} (hP : P i = false) : ∀ n, i < n → allU P n = false
  | 0, h => absurd h (Nat.not_lt_zero _)
  | n + 1, h => by
    rcases Nat.lt_succ_iff_lt_or_eq.mp h with h1 | h1
    · rw [allU, allU_f hP n h1]; rfl
    · subst h1; rw [allU, hP, Bool.and_false]
theorem anyU_t {P : Nat → Bool} {i : Nat} (hP : P i = true) : ∀ n, i < n → anyU P n = true
  | 0, h => absurd h (Nat.not_lt_zero _)
  | n + 1, h => by
    rcases Nat.lt_succ_iff_lt_or_eq.mp h with h1 | h1
    · rw [anyU, anyU_t hP n h1]; rfl
    · subst h1; rw [anyU, hP, Bool.or_true]
theorem nI_ne_m1 {k : Nat} (h : k < 2 ^ 31) : nI k ≠ -1 := by
  intro e
  have h1 := congrArg Int32.toInt e
  rw [nI_toInt h] at h1
  have h2 : (-1 : Int32).toInt = -1 := by decide
  omega
theorem fstU_n {P : Nat → Bool} : ∀ n, (∀ i, i < n → P i = false) → fstU P n = -1
  | 0, _ => rfl
  | n + 1, h => by
    rw [fstU, fstU_n n (fun i hi => h i (by omega)), h n (by omega)]
    simp
theorem fstU_s {P : Nat → Bool} {i : Nat} (hi : i < 2 ^ 31) (h : ∀ j, j < i → P j = false) (hP : P i = true) : ∀ n, i < n → fstU P n = nI i
  | 0, hn => absurd hn (Nat.not_lt_zero _)
  | n + 1, hn => by
    rcases Nat.lt_succ_iff_lt_or_eq.mp hn with h1 | h1
    · rw [fstU, fstU_s hi h hP n h1]
      have := nI_ne_m1 hi
      simp [this]
    · subst h1
      rw [fstU, fstU_n i h, hP]
      simp
theorem bt_mskU {P : Nat → Bool} : ∀ n, n ≤ 32 → ∀ i, i < 32 → bt (mskU P n) i = (decide (i < n) && P i)
  | 0, _, i, _ => by rw [mskU, b_0]; simp
  | n + 1, hn, i, hi => by
    have ih := bt_mskU (P := P) n (by omega) i hi
    rw [mskU]
    have hb : bt ((1 : Int32) <<< (nI n &&& 31)) i = decide (i = n) := by
      rw [b_shl n (by omega) _ hi]
      have h1 : ∀ j, j < 32 → bt 1 j = decide (j = 0) := by decide +kernel
      rw [h1 (i - n) (by omega)]
      by_cases h : n ≤ i
      · simp only [h, decide_true, Bool.true_and, decide_eq_decide]; omega
      · simp only [h, decide_false, Bool.false_and]; rw [eq_comm, decide_eq_false_iff_not]; omega
    by_cases hp : P n = true
    · rw [if_pos hp, b_or, ih, hb]
      by_cases hin : i = n
      · subst hin; simp [hp]
      · have : (decide (i < n + 1)) = decide (i < n) := by rw [decide_eq_decide]; omega
        rw [this]; simp [hin]
    · rw [if_neg hp, ih]
      by_cases hin : i = n
      · subst hin; simp [hp]
      · have : (decide (i < n + 1)) = decide (i < n) := by rw [decide_eq_decide]; omega
        rw [this]
theorem isn_bt (h : Int32) (n : Nat) (hn : n < 32) : isn h (nI n) = bt h n := by
  have h1 : ∀ j, j < 32 → bt 1 j = decide (j = 0) := by decide +kernel
  have key : ∀ i, i < 32 → bt ((h >>> (nI n &&& 31)) &&& 1) i = (decide (i = 0) && bt h n) := by
    intro i hi
    rw [b_and, h1 i hi]
    by_cases h0 : i = 0
    · subst h0
      rw [b_sshr n hn _ hi, if_pos (by omega)]
      simp
    · simp [h0]
  unfold isn
  by_cases hb : bt h n = true
  · rw [hb]
    have : (h >>> (nI n &&& 31)) &&& 1 = 1 := b_ext fun i hi => by rw [key i hi, h1 i hi, hb, Bool.and_true]
    simp [this]
  · have hb : bt h n = false := by simpa using hb
    rw [hb]
    have : (h >>> (nI n &&& 31)) &&& 1 = 0 := b_ext fun i hi => by rw [key i hi, hb, b_0, Bool.and_false]
    rw [this]
    decide
theorem isn_mskU {P : Nat → Bool} {n c : Nat} (hn : n ≤ 32) (hc : c < n) : isn (mskU P n) (nI c) = P c := by
  rw [isn_bt _ _ (by omega), bt_mskU n hn c (by omega)]
  simp [hc]
/-- a clause's span, test, grant -/
def spn (f : Nat → Int32) (d : Int32) (c : Nat) : Bool := wn d (f (c * 11 + 8)) (f (c * 11 + 9))
def msk3 (m low high : Int32) : Bool := decide (m &&& low = low) && decide (m &&& high = 0)
def tso (f : Nat → Int32) (p c : Nat) : Bool :=
  if f (c * 11 + 0) = 0 then true
  else if f (c * 11 + 0) = 1 then wn (nI (trN p (f (c * 11 + 1)))) (f (c * 11 + 2)) (f (c * 11 + 3))
  else if f (c * 11 + 0) = 2 then !wn (nI (trN p (f (c * 11 + 1)))) (f (c * 11 + 2)) (f (c * 11 + 3))
  else if f (c * 11 + 0) = 3 then msk3 (nI (trN p 4)) (f (c * 11 + 2)) (f (c * 11 + 3))
  else if f (c * 11 + 0) = 4 then !decide (f (c * 11 + 2) * nI (trN p (f (c * 11 + 1))) < f (c * 11 + 3))
  else if f (c * 11 + 0) = 5 then wn (nI (trN p 0) + nI (trN p 1)) (f (c * 11 + 2)) (f (c * 11 + 3))
  else false
def hbf (f : Nat → Int32) (p : Nat) (d : Int32) (c : Nat) : Bool := spn f d c && tso f p c
def wor (f : Nat → Int32) (p c : Nat) : Int32 :=
  if f (c * 11 + 4) = 0 then f (c * 11 + 6)
  else if f (c * 11 + 4) = 1 then (if f (c * 11 + 7) < 1 then 0 else nI (trN p (f (c * 11 + 5))) / f (c * 11 + 7) * f (c * 11 + 6))
  else if f (c * 11 + 4) = 2 then (if 0 < f (c * 11 + 6) - f (c * 11 + 7) * nI (trN p (f (c * 11 + 5))) then f (c * 11 + 6) - f (c * 11 + 7) * nI (trN p (f (c * 11 + 5))) else 0)
  else if f (c * 11 + 4) = 4 then (if nI (trN p (f (c * 11 + 5))) < f (c * 11 + 6) then nI (trN p (f (c * 11 + 5))) else f (c * 11 + 6))
  else 0
/-- what stands, gone through from the last clause back: the set, and what is struck -/
def stp (f : Nat → Int32) (hp : Nat → Bool) (c : Nat) (S : Int32 × Int32) : Int32 × Int32 :=
  if hp c && !isn S.2 (nI c) then (S.1 ||| ((1 : Int32) <<< (nI c &&& 31)), if f (c * 11 + 10) = -1 then S.2 else S.2 ||| ((1 : Int32) <<< (f (c * 11 + 10) &&& 31))) else S
def stD (f : Nat → Int32) (hp : Nat → Bool) (n : Nat) : Nat → Int32 × Int32
  | 0 => (0, 0)
  | i + 1 => stp f hp (n - 1 - i) (stD f hp n i)
theorem stD_congr {f : Nat → Int32} {hp hq : Nat → Bool} {n : Nat} (h : ∀ c, c < n → hp c = hq c) : ∀ i, i ≤ n → stD f hp n i = stD f hq n i
  | 0, _ => rfl
  | i + 1, hi => by
    rw [stD, stD, stD_congr h i (by omega)]
    unfold stp
    rw [h (n - 1 - i) (by omega)]
theorem stD_s {f : Nat → Int32} {hp : Nat → Bool} {n N : Nat} (h : N + 1 ≤ n) : stD f hp n (n - N) = stp f hp N (stD f hp n (n - (N + 1))) := by
  rw [show n - N = (n - (N + 1)) + 1 by omega, stD, show n - 1 - (n - (N + 1)) = N by omega]
def cnb (f : Nat → Int32) (h st : Int32) (c : Nat) : Bool := isn st (nI c) && (decide (f (c * 11 + 10) = -1) || isn h (f (c * 11 + 10)))
/-- what somebody gets on a day -/
def ocm (f : Nat → Int32) (n p : Nat) (d : Int32) : Int32 := sumU (cnb f (mskU (hbf f p d) n) (stD f (hbf f p d) n n).1) (wor f p) n
theorem sumU_congr {P P' : Nat → Bool} {w w' : Nat → Int32} {n : Nat} (h : ∀ c, c < n → P c = P' c) (hw : ∀ c, c < n → w c = w' c) : ∀ i, i ≤ n → sumU P w i = sumU P' w' i
  | 0, _ => rfl
  | i + 1, hi => by rw [sumU, sumU, sumU_congr h hw i (by omega), h i (by omega), hw i (by omega)]
theorem mskU_congr {P P' : Nat → Bool} {n : Nat} (h : ∀ c, c < n → P c = P' c) : ∀ i, i ≤ n → mskU P i = mskU P' i
  | 0, _ => rfl
  | i + 1, hi => by rw [mskU, mskU, mskU_congr h i (by omega), h i (by omega)]
theorem ne_oa {c : Nat → va_E} {k j : Nat} {x : Nat × List Value} {y : ClassId × vp_A} (h1 : c k = .inr x) (h2 : c j = .inl y) : k ≠ j := by
  rintro rfl
  rw [h1] at h2
  cases h2

set_option maxHeartbeats 4000000 in
set_option maxRecDepth 100000 in
theorem k_X10_within (l : Launch) {v a b : Int32} : Met l yX10_within (wv yX10_within cX10_within 3 (some .boolean)) ({ frames := 0, cells := 0, slots := 0, locals := 0 } : Room) (va_Pc [.int v, .int a, .int b] (fun _ => True)) (vp_Si (fun r => r = bi (wn v a b))) 0 0 (fun _ => False) := by
  refine en (by decide +kernel) (by first | exact Nat.le_of_ble_eq_true rfl | decide) ?_
  intro p e s m below meth cd ls hx hb hr hml hown hts hlocks hnm hw hl
  have hl : lv_has ls 3 [(0, .int v), (1, .int a), (2, .int b)] := hl
  refine lv_iload_n hx hb dX10_within_0 rfl (lv_at hl 0 rfl) ?_
  refine lv_iload_n hx hb dX10_within_1 rfl (lv_at hl 1 rfl) ?_
  refine lv_icmp_lt (tgt := 14) hx hb dX10_within_2 (by decide) (fun c2 => ?_) (fun c2 => ?_)
  · refine lv_iconst (v := 0) hx hb dX10_within_14 (by decide) ?_
    exact re_S hx hb hr hlocks (rfl) dX10_within_15 (by simp [wn, bi, c2])
  · refine lv_iload_n hx hb dX10_within_5 rfl (lv_at hl 0 rfl) ?_
    refine lv_iload_n hx hb dX10_within_6 rfl (lv_at hl 2 rfl) ?_
    refine lv_icmp_gt (tgt := 14) hx hb dX10_within_7 (by decide) (fun c7 => ?_) (fun c7 => ?_)
    · refine lv_iconst (v := 0) hx hb dX10_within_14 (by decide) ?_
      exact re_S hx hb hr hlocks (rfl) dX10_within_15 (by simp [wn, bi, c2, c7])
    · refine lv_iconst (v := 1) hx hb dX10_within_10 (by decide) ?_
      refine lv_goto (tgt := 15) hx hb dX10_within_11 (by decide) ?_
      exact re_S hx hb hr hlocks (rfl) dX10_within_15 (by simp [wn, bi, c2, c7])
set_option maxHeartbeats 4000000 in
set_option maxRecDepth 100000 in
theorem k_X11_in (l : Launch) {v a b : Int32} : Met l yX11_in (wv yX11_in cX11_in 3 (some .boolean)) ({ frames := 0, cells := 0, slots := 0, locals := 0 } : Room) (va_Pc [.int v, .int a, .int b] (fun _ => True)) (vp_Si (fun r => r = bi (wn v a b))) 0 0 (fun _ => False) := by
  refine en (by decide +kernel) (by first | exact Nat.le_of_ble_eq_true rfl | decide) ?_
  intro p e s m below meth cd ls hx hb hr hml hown hts hlocks hnm hw hl
  have hl : lv_has ls 3 [(0, .int v), (1, .int a), (2, .int b)] := hl
  refine lv_iload_n hx hb dX11_in_0 rfl (lv_at hl 0 rfl) ?_
  refine lv_iload_n hx hb dX11_in_1 rfl (lv_at hl 1 rfl) ?_
  refine lv_icmp_lt (tgt := 14) hx hb dX11_in_2 (by decide) (fun c2 => ?_) (fun c2 => ?_)
  · refine lv_iconst (v := 0) hx hb dX11_in_14 (by decide) ?_
    exact re_S hx hb hr hlocks (rfl) dX11_in_15 (by simp [wn, bi, c2])
  · refine lv_iload_n hx hb dX11_in_5 rfl (lv_at hl 0 rfl) ?_
    refine lv_iload_n hx hb dX11_in_6 rfl (lv_at hl 2 rfl) ?_
    refine lv_icmp_gt (tgt := 14) hx hb dX11_in_7 (by decide) (fun c7 => ?_) (fun c7 => ?_)
    · refine lv_iconst (v := 0) hx hb dX11_in_14 (by decide) ?_
      exact re_S hx hb hr hlocks (rfl) dX11_in_15 (by simp [wn, bi, c2, c7])
    · refine lv_iconst (v := 1) hx hb dX11_in_10 (by decide) ?_
      refine lv_goto (tgt := 15) hx hb dX11_in_11 (by decide) ?_
      exact re_S hx hb hr hlocks (rfl) dX11_in_15 (by simp [wn, bi, c2, c7])
set_option maxHeartbeats 4000000 in
set_option maxRecDepth 100000 in
theorem k_X10_isProfile (l : Launch) {v : Int32} : Met l yX10_isProfile (wv yX10_isProfile cX10_isProfile 1 (some .boolean)) ({ frames := 1, cells := 0, slots := 0, locals := 22 } : Room) (va_Pc [.int v] (fun _ => True)) (vp_Si (fun r => r = bi (isP v))) 0 0 (fun _ => False) := by
  refine en (by decide +kernel) (by first | exact Nat.le_of_ble_eq_true rfl | decide) ?_
  intro p e s m below meth cd ls hx hb hr hml hown hts hlocks hnm hw hl
  have hl : lv_has ls 1 [(0, .int v)] := hl
  refine lv_iload_n hx hb dX10_isProfile_0 rfl (lv_at hl 0 rfl) ?_
  refine lv_iconst (v := 0) hx hb dX10_isProfile_1 (by decide) ?_
  refine lv_ldcw (v := 25599999) hx hb hown (hts _ tw_279) dX10_isProfile_2 ?_
  refine cSe (rST (As := [_, _, _]) ⟨hx, hb, hml, hown, hts⟩ (k_X10_within l ) (cv_X10_within hts tw_209 rfl rfl ⟨Nat.le_of_ble_eq_true rfl, Nat.le_of_ble_eq_true rfl⟩) rfl hl.1 rfl (by first | exact Nat.le_of_ble_eq_true rfl | decide) dX10_isProfile_5 ⟨Nat.zero_le _, Nat.zero_le _⟩) ?_
  exact re_S hx hb hr hlocks (bi_n _) dX10_isProfile_8 (rfl)
set_option maxHeartbeats 4000000 in
set_option maxRecDepth 100000 in
theorem k_X10_isDay (l : Launch) {v : Int32} : Met l yX10_isDay (wv yX10_isDay cX10_isDay 1 (some .boolean)) ({ frames := 1, cells := 0, slots := 0, locals := 22 } : Room) (va_Pc [.int v] (fun _ => True)) (vp_Si (fun r => r = bi (isDy v))) 0 0 (fun _ => False) := by
  refine en (by decide +kernel) (by first | exact Nat.le_of_ble_eq_true rfl | decide) ?_
  intro p e s m below meth cd ls hx hb hr hml hown hts hlocks hnm hw hl
  have hl : lv_has ls 1 [(0, .int v)] := hl
  refine lv_iload_n hx hb dX10_isDay_0 rfl (lv_at hl 0 rfl) ?_
  refine lv_iconst (v := 0) hx hb dX10_isDay_1 (by decide) ?_
  refine lv_sipush (v := 999) hx hb dX10_isDay_2 (by decide) ?_
  refine cSe (rST (As := [_, _, _]) ⟨hx, hb, hml, hown, hts⟩ (k_X10_within l ) (cv_X10_within hts tw_209 rfl rfl ⟨Nat.le_of_ble_eq_true rfl, Nat.le_of_ble_eq_true rfl⟩) rfl hl.1 rfl (by first | exact Nat.le_of_ble_eq_true rfl | decide) dX10_isDay_5 ⟨Nat.zero_le _, Nat.zero_le _⟩) ?_
  exact re_S hx hb hr hlocks (bi_n _) dX10_isDay_8 (rfl)
set_option maxHeartbeats 4000000 in
set_option maxRecDepth 100000 in
theorem k_X10_isSheet (l : Launch) {v : Int32} : Met l yX10_isSheet (wv yX10_isSheet cX10_isSheet 1 (some .boolean)) ({ frames := 1, cells := 0, slots := 0, locals := 22 } : Room) (va_Pc [.int v] (fun _ => True)) (vp_Si (fun r => r = bi (isSh v))) 0 0 (fun _ => False) := by
  refine en (by decide +kernel) (by first | exact Nat.le_of_ble_eq_true rfl | decide) ?_
  intro p e s m below meth cd ls hx hb hr hml hown hts hlocks hnm hw hl
  have hl : lv_has ls 1 [(0, .int v)] := hl
  refine lv_iload_n hx hb dX10_isSheet_0 rfl (lv_at hl 0 rfl) ?_
  refine lv_iconst (v := 0) hx hb dX10_isSheet_1 (by decide) ?_
  refine lv_iconst (v := 3) hx hb dX10_isSheet_2 (by decide) ?_
  refine cSe (rST (As := [_, _, _]) ⟨hx, hb, hml, hown, hts⟩ (k_X10_within l ) (cv_X10_within hts tw_209 rfl rfl ⟨Nat.le_of_ble_eq_true rfl, Nat.le_of_ble_eq_true rfl⟩) rfl hl.1 rfl (by first | exact Nat.le_of_ble_eq_true rfl | decide) dX10_isSheet_3 ⟨Nat.zero_le _, Nat.zero_le _⟩) ?_
  exact re_S hx hb hr hlocks (bi_n _) dX10_isSheet_6 (rfl)
set_option maxHeartbeats 4000000 in
set_option maxRecDepth 100000 in
theorem k_X11_isProfile (l : Launch) {v : Int32} : Met l yX11_isProfile (wv yX11_isProfile cX11_isProfile 1 (some .boolean)) ({ frames := 1, cells := 0, slots := 0, locals := 22 } : Room) (va_Pc [.int v] (fun _ => True)) (vp_Si (fun r => r = bi (isP v))) 0 0 (fun _ => False) := by
  refine en (by decide +kernel) (by first | exact Nat.le_of_ble_eq_true rfl | decide) ?_
  intro p e s m below meth cd ls hx hb hr hml hown hts hlocks hnm hw hl
  have hl : lv_has ls 1 [(0, .int v)] := hl
  refine lv_iload_n hx hb dX11_isProfile_0 rfl (lv_at hl 0 rfl) ?_
  refine lv_iconst (v := 0) hx hb dX11_isProfile_1 (by decide) ?_
  refine lv_ldc (v := 25599999) hx hb hown (hts _ tw_1033) dX11_isProfile_2 ?_
  refine cSe (rST (As := [_, _, _]) ⟨hx, hb, hml, hown, hts⟩ (k_X11_in l ) (cv_X11_in hts tw_987 rfl rfl ⟨Nat.le_of_ble_eq_true rfl, Nat.le_of_ble_eq_true rfl⟩) rfl hl.1 rfl (by first | exact Nat.le_of_ble_eq_true rfl | decide) dX11_isProfile_4 ⟨Nat.zero_le _, Nat.zero_le _⟩) ?_
  exact re_S hx hb hr hlocks (bi_n _) dX11_isProfile_7 (rfl)
set_option maxHeartbeats 4000000 in
set_option maxRecDepth 100000 in
theorem k_X11_isDay (l : Launch) {v : Int32} : Met l yX11_isDay (wv yX11_isDay cX11_isDay 1 (some .boolean)) ({ frames := 1, cells := 0, slots := 0, locals := 22 } : Room) (va_Pc [.int v] (fun _ => True)) (vp_Si (fun r => r = bi (isDy v))) 0 0 (fun _ => False) := by
  refine en (by decide +kernel) (by first | exact Nat.le_of_ble_eq_true rfl | decide) ?_
  intro p e s m below meth cd ls hx hb hr hml hown hts hlocks hnm hw hl
  have hl : lv_has ls 1 [(0, .int v)] := hl
  refine lv_iload_n hx hb dX11_isDay_0 rfl (lv_at hl 0 rfl) ?_
  refine lv_iconst (v := 0) hx hb dX11_isDay_1 (by decide) ?_
  refine lv_sipush (v := 999) hx hb dX11_isDay_2 (by decide) ?_
  refine cSe (rST (As := [_, _, _]) ⟨hx, hb, hml, hown, hts⟩ (k_X11_in l ) (cv_X11_in hts tw_987 rfl rfl ⟨Nat.le_of_ble_eq_true rfl, Nat.le_of_ble_eq_true rfl⟩) rfl hl.1 rfl (by first | exact Nat.le_of_ble_eq_true rfl | decide) dX11_isDay_5 ⟨Nat.zero_le _, Nat.zero_le _⟩) ?_
  exact re_S hx hb hr hlocks (bi_n _) dX11_isDay_8 (rfl)
set_option maxHeartbeats 4000000 in
set_option maxRecDepth 100000 in
theorem k_X11_isSheet (l : Launch) {v : Int32} : Met l yX11_isSheet (wv yX11_isSheet cX11_isSheet 1 (some .boolean)) ({ frames := 1, cells := 0, slots := 0, locals := 22 } : Room) (va_Pc [.int v] (fun _ => True)) (vp_Si (fun r => r = bi (isSh v))) 0 0 (fun _ => False) := by
  refine en (by decide +kernel) (by first | exact Nat.le_of_ble_eq_true rfl | decide) ?_
  intro p e s m below meth cd ls hx hb hr hml hown hts hlocks hnm hw hl
  have hl : lv_has ls 1 [(0, .int v)] := hl
  refine lv_iload_n hx hb dX11_isSheet_0 rfl (lv_at hl 0 rfl) ?_
  refine lv_iconst (v := 0) hx hb dX11_isSheet_1 (by decide) ?_
  refine lv_iconst (v := 3) hx hb dX11_isSheet_2 (by decide) ?_
  refine cSe (rST (As := [_, _, _]) ⟨hx, hb, hml, hown, hts⟩ (k_X11_in l ) (cv_X11_in hts tw_987 rfl rfl ⟨Nat.le_of_ble_eq_true rfl, Nat.le_of_ble_eq_true rfl⟩) rfl hl.1 rfl (by first | exact Nat.le_of_ble_eq_true rfl | decide) dX11_isSheet_3 ⟨Nat.zero_le _, Nat.zero_le _⟩) ?_
  exact re_S hx hb hr hlocks (bi_n _) dX11_isSheet_6 (rfl)
set_option maxHeartbeats 4000000 in
set_option maxRecDepth 100000 in
theorem k_X10_isAlong (l : Launch) {a b t : Int32} : Met l yX10_isAlong (wv yX10_isAlong cX10_isAlong 3 (some .boolean)) ({ frames := 2, cells := 0, slots := 0, locals := 42 } : Room) (va_Pc [.int a, .int b, .int t] (fun _ => True)) (vp_Si (fun r => r = bi (isP a && isDy b && isSh t))) 0 0 (fun _ => False) := by
  refine en (by decide +kernel) (by first | exact Nat.le_of_ble_eq_true rfl | decide) ?_
  intro p e s m below meth cd ls hx hb hr hml hown hts hlocks hnm hw hl
  have hl : lv_has ls 3 [(0, .int a), (1, .int b), (2, .int t)] := hl
  refine lv_iload_n hx hb dX10_isAlong_0 rfl (lv_at hl 0 rfl) ?_
  refine cSe (rST (As := [_]) ⟨hx, hb, hml, hown, hts⟩ (k_X10_isProfile l ) (cv_X10_isProfile hts tw_276 rfl rfl ⟨Nat.le_of_ble_eq_true rfl, Nat.le_of_ble_eq_true rfl⟩) rfl hl.1 rfl (by first | exact Nat.le_of_ble_eq_true rfl | decide) dX10_isAlong_1 ⟨Nat.zero_le _, Nat.zero_le _⟩) ?_
  refine zb_eq (tgt := 27) hx hb dX10_isAlong_4 (by decide) (fun c4 => ?_) (fun c4 => ?_)
  · refine lv_iconst (v := 0) hx hb dX10_isAlong_27 (by decide) ?_
    exact re_S hx hb hr hlocks (rfl) dX10_isAlong_28 (by simp [bi, isSh, c4])
  · refine lv_iload_n hx hb dX10_isAlong_7 rfl (lv_at hl 1 rfl) ?_
    refine cSe (rST (As := [_]) ⟨hx, hb, hml, hown, hts⟩ (k_X10_isDay l ) (cv_X10_isDay hts tw_237 rfl rfl ⟨Nat.le_of_ble_eq_true rfl, Nat.le_of_ble_eq_true rfl⟩) rfl hl.1 rfl (by first | exact Nat.le_of_ble_eq_true rfl | decide) dX10_isAlong_8 ⟨Nat.zero_le _, Nat.zero_le _⟩) ?_
    refine zb_eq (tgt := 27) hx hb dX10_isAlong_11 (by decide) (fun c11 => ?_) (fun c11 => ?_)
    · refine lv_iconst (v := 0) hx hb dX10_isAlong_27 (by decide) ?_
      exact re_S hx hb hr hlocks (rfl) dX10_isAlong_28 (by simp [bi, isSh, c4, c11])
    · refine lv_iload_n hx hb dX10_isAlong_14 rfl (lv_at hl 2 rfl) ?_
      refine lv_iconst (v := 0) hx hb dX10_isAlong_15 (by decide) ?_
      refine lv_iconst (v := 3) hx hb dX10_isAlong_16 (by decide) ?_
      refine cSe (rST (As := [_, _, _]) ⟨hx, hb, hml, hown, hts⟩ (k_X10_within l ) (cv_X10_within hts tw_209 rfl rfl ⟨Nat.le_of_ble_eq_true rfl, Nat.le_of_ble_eq_true rfl⟩) rfl hl.1 rfl (by first | exact Nat.le_of_ble_eq_true rfl | decide) dX10_isAlong_17 ⟨Nat.zero_le _, Nat.zero_le _⟩) ?_
      refine zb_eq (tgt := 27) hx hb dX10_isAlong_20 (by decide) (fun c20 => ?_) (fun c20 => ?_)
      · refine lv_iconst (v := 0) hx hb dX10_isAlong_27 (by decide) ?_
        exact re_S hx hb hr hlocks (rfl) dX10_isAlong_28 (by simp [bi, isSh, c4, c11, c20])
      · refine lv_iconst (v := 1) hx hb dX10_isAlong_23 (by decide) ?_
        refine lv_goto (tgt := 28) hx hb dX10_isAlong_24 (by decide) ?_
        exact re_S hx hb hr hlocks (rfl) dX10_isAlong_28 (by simp [bi, isSh, c4, c11, c20])
set_option maxHeartbeats 4000000 in
set_option maxRecDepth 100000 in
theorem k_X11_isAsked (l : Launch) {a b : Int32} : Met l yX11_isAsked (wv yX11_isAsked cX11_isAsked 2 (some .boolean)) ({ frames := 2, cells := 0, slots := 0, locals := 42 } : Room) (va_Pc [.int a, .int b] (fun _ => True)) (vp_Si (fun r => r = bi (isP a && isDy b))) 0 0 (fun _ => False) := by
  refine en (by decide +kernel) (by first | exact Nat.le_of_ble_eq_true rfl | decide) ?_
  intro p e s m below meth cd ls hx hb hr hml hown hts hlocks hnm hw hl
  have hl : lv_has ls 2 [(0, .int a), (1, .int b)] := hl
  refine lv_iload_n hx hb dX11_isAsked_0 rfl (lv_at hl 0 rfl) ?_
  refine cSe (rST (As := [_]) ⟨hx, hb, hml, hown, hts⟩ (k_X11_isProfile l ) (cv_X11_isProfile hts tw_1030 rfl rfl ⟨Nat.le_of_ble_eq_true rfl, Nat.le_of_ble_eq_true rfl⟩) rfl hl.1 rfl (by first | exact Nat.le_of_ble_eq_true rfl | decide) dX11_isAsked_1 ⟨Nat.zero_le _, Nat.zero_le _⟩) ?_
  refine zb_eq (tgt := 18) hx hb dX11_isAsked_4 (by decide) (fun c4 => ?_) (fun c4 => ?_)
  · refine lv_iconst (v := 0) hx hb dX11_isAsked_18 (by decide) ?_
    exact re_S hx hb hr hlocks (rfl) dX11_isAsked_19 (by simp [bi, c4])
  · refine lv_iload_n hx hb dX11_isAsked_7 rfl (lv_at hl 1 rfl) ?_
    refine cSe (rST (As := [_]) ⟨hx, hb, hml, hown, hts⟩ (k_X11_isDay l ) (cv_X11_isDay hts tw_1050 rfl rfl ⟨Nat.le_of_ble_eq_true rfl, Nat.le_of_ble_eq_true rfl⟩) rfl hl.1 rfl (by first | exact Nat.le_of_ble_eq_true rfl | decide) dX11_isAsked_8 ⟨Nat.zero_le _, Nat.zero_le _⟩) ?_
    refine zb_eq (tgt := 18) hx hb dX11_isAsked_11 (by decide) (fun c11 => ?_) (fun c11 => ?_)
    · refine lv_iconst (v := 0) hx hb dX11_isAsked_18 (by decide) ?_
      exact re_S hx hb hr hlocks (rfl) dX11_isAsked_19 (by simp [bi, c4, c11])
    · refine lv_iconst (v := 1) hx hb dX11_isAsked_14 (by decide) ?_
      refine lv_goto (tgt := 19) hx hb dX11_isAsked_15 (by decide) ?_
      exact re_S hx hb hr hlocks (rfl) dX11_isAsked_19 (by simp [bi, c4, c11])
set_option maxHeartbeats 4000000 in
set_option maxRecDepth 100000 in
theorem k_X11_isAlong (l : Launch) {a b t : Int32} : Met l yX11_isAlong (wv yX11_isAlong cX11_isAlong 3 (some .boolean)) ({ frames := 3, cells := 0, slots := 0, locals := 63 } : Room) (va_Pc [.int a, .int b, .int t] (fun _ => True)) (vp_Si (fun r => r = bi (isP a && isDy b && isSh t))) 0 0 (fun _ => False) := by
  refine en (by decide +kernel) (by first | exact Nat.le_of_ble_eq_true rfl | decide) ?_
  intro p e s m below meth cd ls hx hb hr hml hown hts hlocks hnm hw hl
  have hl : lv_has ls 3 [(0, .int a), (1, .int b), (2, .int t)] := hl
  refine lv_iload_n hx hb dX11_isAlong_0 rfl (lv_at hl 0 rfl) ?_
  refine lv_iload_n hx hb dX11_isAlong_1 rfl (lv_at hl 1 rfl) ?_
  refine cSe (rST (As := [_, _]) ⟨hx, hb, hml, hown, hts⟩ (k_X11_isAsked l ) (cv_X11_isAsked hts tw_1047 rfl rfl ⟨Nat.le_of_ble_eq_true rfl, Nat.le_of_ble_eq_true rfl⟩) rfl hl.1 rfl (by first | exact Nat.le_of_ble_eq_true rfl | decide) dX11_isAlong_2 ⟨Nat.zero_le _, Nat.zero_le _⟩) ?_
  refine zb_eq (tgt := 21) hx hb dX11_isAlong_5 (by decide) (fun c5 => ?_) (fun c5 => ?_)
  · refine lv_iconst (v := 0) hx hb dX11_isAlong_21 (by decide) ?_
    exact re_S hx hb hr hlocks (rfl) dX11_isAlong_22 (by simp [bi, isSh, c5])
  · refine lv_iload_n hx hb dX11_isAlong_8 rfl (lv_at hl 2 rfl) ?_
    refine lv_iconst (v := 0) hx hb dX11_isAlong_9 (by decide) ?_
    refine lv_iconst (v := 3) hx hb dX11_isAlong_10 (by decide) ?_
    refine cSe (rST (As := [_, _, _]) ⟨hx, hb, hml, hown, hts⟩ (k_X11_in l ) (cv_X11_in hts tw_987 rfl rfl ⟨Nat.le_of_ble_eq_true rfl, Nat.le_of_ble_eq_true rfl⟩) rfl hl.1 rfl (by first | exact Nat.le_of_ble_eq_true rfl | decide) dX11_isAlong_11 ⟨Nat.zero_le _, Nat.zero_le _⟩) ?_
    refine zb_eq (tgt := 21) hx hb dX11_isAlong_14 (by decide) (fun c14 => ?_) (fun c14 => ?_)
    · refine lv_iconst (v := 0) hx hb dX11_isAlong_21 (by decide) ?_
      exact re_S hx hb hr hlocks (rfl) dX11_isAlong_22 (by simp [bi, isSh, c5, c14])
    · refine lv_iconst (v := 1) hx hb dX11_isAlong_17 (by decide) ?_
      refine lv_goto (tgt := 22) hx hb dX11_isAlong_18 (by decide) ?_
      exact re_S hx hb hr hlocks (rfl) dX11_isAlong_22 (by simp [bi, isSh, c5, c14])
set_option maxHeartbeats 4000000 in
set_option maxRecDepth 100000 in
theorem k_X9_told (l : Launch) {p0 : Nat} {t : Int32} (hp0 : p0 < 25600000) : Met l yX9_told (wv yX9_told cX9_told 2 (some .int)) ({ frames := 0, cells := 0, slots := 0, locals := 0 } : Room) (va_Pc [.int (nI p0), .int t] (fun _ => True)) (vp_Si (fun r => r = nI (trN p0 t))) 0 0 (fun _ => False) := by
  refine en (by decide +kernel) (by first | exact Nat.le_of_ble_eq_true rfl | decide) ?_
  intro p e s m below meth cd ls hx hb hr hml hown hts hlocks hnm hw hl
  have hl : lv_has ls 2 [(0, .int (nI p0)), (1, .int t)] := hl
  refine lv_iload_n hx hb dX9_told_0 rfl (lv_at hl 1 rfl) ?_
  by_cases hs1 : t.toInt < 0 ∨ 3 < t.toInt
  · refine lv_tableOut (tgt := 62) hx hb dX9_told_1 hs1 (by decide) ?_
    refine lv_iload_n hx hb dX9_told_62 rfl (lv_at hl 0 rfl) ?_
    refine lv_ldc (v := 800000) hx hb hown (hts _ tw_271) dX9_told_63 ?_
    refine lv_idiv hx hb dX9_told_65 (by decide) ?_
    exact re_S hx hb hr hlocks (rfl) dX9_told_66 (by obtain ⟨h0, h1, h2, h3⟩ := sw3 hs1; rw [trN, if_neg h0, if_neg h1, if_neg h2, if_neg h3]; exact pk_div (by omega) (by decide) (by decide))
  · have hz1 : t.toInt = 0 ∨ t.toInt = 1 ∨ t.toInt = 2 ∨ t.toInt = 3 := by omega
    rcases hz1 with hz1 | hz1 | hz1 | hz1
    · refine lv_tableIn (off := 31) (tgt := 32) hx hb dX9_told_1 (by omega) (by omega) (by rw [hz1]; rfl) (by decide) ?_
      have hz1 : t = 0 := Int32.toInt_inj.mp (hz1.trans rfl)
      refine lv_iload_n hx hb dX9_told_32 rfl (lv_at hl 0 rfl) ?_
      refine lv_bipush (v := 100) hx hb dX9_told_33 (by decide) ?_
      refine lv_irem hx hb dX9_told_35 (by decide) ?_
      exact re_S hx hb hr hlocks (rfl) dX9_told_36 (by subst hz1; exact pk_rem (d := 100) (by omega) (by decide) (by decide))
    · refine lv_tableIn (off := 36) (tgt := 37) hx hb dX9_told_1 (by omega) (by omega) (by rw [hz1]; rfl) (by decide) ?_
      have hz1 : t = 1 := Int32.toInt_inj.mp (hz1.trans rfl)
      refine lv_iload_n hx hb dX9_told_37 rfl (lv_at hl 0 rfl) ?_
      refine lv_bipush (v := 100) hx hb dX9_told_38 (by decide) ?_
      refine lv_idiv hx hb dX9_told_40 (by decide) ?_
      refine lv_bipush (v := 100) hx hb dX9_told_41 (by decide) ?_
      refine lv_irem hx hb dX9_told_43 (by decide) ?_
      exact re_S hx hb hr hlocks (rfl) dX9_told_44 (by subst hz1; show nI p0 / nI 100 - nI p0 / nI 100 / nI 100 * nI 100 = nI (p0 / 100 % 100); rw [pk_div (by omega) (by decide) (by decide)]; exact pk_rem (by omega) (by decide) (by decide))
    · refine lv_tableIn (off := 44) (tgt := 45) hx hb dX9_told_1 (by omega) (by omega) (by rw [hz1]; rfl) (by decide) ?_
      have hz1 : t = 2 := Int32.toInt_inj.mp (hz1.trans rfl)
      refine lv_iload_n hx hb dX9_told_45 rfl (lv_at hl 0 rfl) ?_
      refine lv_sipush (v := 10000) hx hb dX9_told_46 (by decide) ?_
      refine lv_idiv hx hb dX9_told_49 (by decide) ?_
      refine lv_bipush (v := 10) hx hb dX9_told_50 (by decide) ?_
      refine lv_irem hx hb dX9_told_52 (by decide) ?_
      exact re_S hx hb hr hlocks (rfl) dX9_told_53 (by subst hz1; show nI p0 / nI 10000 - nI p0 / nI 10000 / nI 10 * nI 10 = nI (p0 / 10000 % 10); rw [pk_div (by omega) (by decide) (by decide)]; exact pk_rem (by omega) (by decide) (by decide))
    · refine lv_tableIn (off := 53) (tgt := 54) hx hb dX9_told_1 (by omega) (by omega) (by rw [hz1]; rfl) (by decide) ?_
      have hz1 : t = 3 := Int32.toInt_inj.mp (hz1.trans rfl)
      refine lv_iload_n hx hb dX9_told_54 rfl (lv_at hl 0 rfl) ?_
      refine lv_ldc (v := 100000) hx hb hown (hts _ tw_270) dX9_told_55 ?_
      refine lv_idiv hx hb dX9_told_57 (by decide) ?_
      refine lv_bipush (v := 8) hx hb dX9_told_58 (by decide) ?_
      refine lv_irem hx hb dX9_told_60 (by decide) ?_
      exact re_S hx hb hr hlocks (rfl) dX9_told_61 (by subst hz1; show nI p0 / nI 100000 - nI p0 / nI 100000 / nI 8 * nI 8 = nI (p0 / 100000 % 8); rw [pk_div (by omega) (by decide) (by decide)]; exact pk_rem (by omega) (by decide) (by decide))
set_option maxHeartbeats 4000000 in
set_option maxRecDepth 100000 in
theorem k_X9_last (l : Launch) {t : Int32} : Met l yX9_last (wv yX9_last cX9_last 1 (some .int)) ({ frames := 0, cells := 0, slots := 0, locals := 0 } : Room) (va_Pc [.int t] (fun _ => True)) (vp_Si (fun r => r = tlast t)) 0 0 (fun _ => False) := by
  refine en (by decide +kernel) (by first | exact Nat.le_of_ble_eq_true rfl | decide) ?_
  intro p e s m below meth cd ls hx hb hr hml hown hts hlocks hnm hw hl
  have hl : lv_has ls 1 [(0, .int t)] := hl
  refine lv_iload_n hx hb dX9_last_0 rfl (lv_at hl 0 rfl) ?_
  by_cases hs1 : t.toInt < 0 ∨ 3 < t.toInt
  · refine lv_tableOut (tgt := 44) hx hb dX9_last_1 hs1 (by decide) ?_
    refine lv_bipush (v := 31) hx hb dX9_last_44 (by decide) ?_
    exact re_S hx hb hr hlocks (rfl) dX9_last_46 (by obtain ⟨h0, h1, h2, h3⟩ := sw3 hs1; rw [tlast, if_neg h0, if_neg h1, if_neg h2, if_neg h3])
  · have hz1 : t.toInt = 0 ∨ t.toInt = 1 ∨ t.toInt = 2 ∨ t.toInt = 3 := by omega
    rcases hz1 with hz1 | hz1 | hz1 | hz1
    · refine lv_tableIn (off := 31) (tgt := 32) hx hb dX9_last_1 (by omega) (by omega) (by rw [hz1]; rfl) (by decide) ?_
      have hz1 : t = 0 := Int32.toInt_inj.mp (hz1.trans rfl)
      refine lv_bipush (v := 99) hx hb dX9_last_32 (by decide) ?_
      exact re_S hx hb hr hlocks (rfl) dX9_last_34 (by subst hz1; rfl)
    · refine lv_tableIn (off := 34) (tgt := 35) hx hb dX9_last_1 (by omega) (by omega) (by rw [hz1]; rfl) (by decide) ?_
      have hz1 : t = 1 := Int32.toInt_inj.mp (hz1.trans rfl)
      refine lv_bipush (v := 99) hx hb dX9_last_35 (by decide) ?_
      exact re_S hx hb hr hlocks (rfl) dX9_last_37 (by subst hz1; rfl)
    · refine lv_tableIn (off := 37) (tgt := 38) hx hb dX9_last_1 (by omega) (by omega) (by rw [hz1]; rfl) (by decide) ?_
      have hz1 : t = 2 := Int32.toInt_inj.mp (hz1.trans rfl)
      refine lv_bipush (v := 9) hx hb dX9_last_38 (by decide) ?_
      exact re_S hx hb hr hlocks (rfl) dX9_last_40 (by subst hz1; rfl)
    · refine lv_tableIn (off := 40) (tgt := 41) hx hb dX9_last_1 (by omega) (by omega) (by rw [hz1]; rfl) (by decide) ?_
      have hz1 : t = 3 := Int32.toInt_inj.mp (hz1.trans rfl)
      refine lv_bipush (v := 7) hx hb dX9_last_41 (by decide) ?_
      exact re_S hx hb hr hlocks (rfl) dX9_last_43 (by subst hz1; rfl)
set_option maxHeartbeats 4000000 in
set_option maxRecDepth 100000 in
theorem k_X9_weight (l : Launch) {t : Int32} : Met l yX9_weight (wv yX9_weight cX9_weight 1 (some .int)) ({ frames := 0, cells := 0, slots := 0, locals := 0 } : Room) (va_Pc [.int t] (fun _ => True)) (vp_Si (fun r => r = nI (wtN t))) 0 0 (fun _ => False) := by
  refine en (by decide +kernel) (by first | exact Nat.le_of_ble_eq_true rfl | decide) ?_
  intro p e s m below meth cd ls hx hb hr hml hown hts hlocks hnm hw hl
  have hl : lv_has ls 1 [(0, .int t)] := hl
  refine lv_iload_n hx hb dX9_weight_0 rfl (lv_at hl 0 rfl) ?_
  by_cases hs1 : t.toInt < 0 ∨ 3 < t.toInt
  · refine lv_tableOut (tgt := 44) hx hb dX9_weight_1 hs1 (by decide) ?_
    refine lv_ldc (v := 800000) hx hb hown (hts _ tw_271) dX9_weight_44 ?_
    exact re_S hx hb hr hlocks (rfl) dX9_weight_46 (by first | (subst hz1; rfl) | (obtain ⟨h0, h1, h2, h3⟩ := sw3 hs1; rw [wtN, if_neg h0, if_neg h1, if_neg h2, if_neg h3]; rfl))
  · have hz1 : t.toInt = 0 ∨ t.toInt = 1 ∨ t.toInt = 2 ∨ t.toInt = 3 := by omega
    rcases hz1 with hz1 | hz1 | hz1 | hz1
    · refine lv_tableIn (off := 31) (tgt := 32) hx hb dX9_weight_1 (by omega) (by omega) (by rw [hz1]; rfl) (by decide) ?_
      have hz1 : t = 0 := Int32.toInt_inj.mp (hz1.trans rfl)
      refine lv_iconst (v := 1) hx hb dX9_weight_32 (by decide) ?_
      exact re_S hx hb hr hlocks (rfl) dX9_weight_33 (by first | (subst hz1; rfl) | (obtain ⟨h0, h1, h2, h3⟩ := sw3 hs1; rw [wtN, if_neg h0, if_neg h1, if_neg h2, if_neg h3]; rfl))
    · refine lv_tableIn (off := 33) (tgt := 34) hx hb dX9_weight_1 (by omega) (by omega) (by rw [hz1]; rfl) (by decide) ?_
      have hz1 : t = 1 := Int32.toInt_inj.mp (hz1.trans rfl)
      refine lv_bipush (v := 100) hx hb dX9_weight_34 (by decide) ?_
      exact re_S hx hb hr hlocks (rfl) dX9_weight_36 (by first | (subst hz1; rfl) | (obtain ⟨h0, h1, h2, h3⟩ := sw3 hs1; rw [wtN, if_neg h0, if_neg h1, if_neg h2, if_neg h3]; rfl))
    · refine lv_tableIn (off := 36) (tgt := 37) hx hb dX9_weight_1 (by omega) (by omega) (by rw [hz1]; rfl) (by decide) ?_
      have hz1 : t = 2 := Int32.toInt_inj.mp (hz1.trans rfl)
      refine lv_sipush (v := 10000) hx hb dX9_weight_37 (by decide) ?_
      exact re_S hx hb hr hlocks (rfl) dX9_weight_40 (by first | (subst hz1; rfl) | (obtain ⟨h0, h1, h2, h3⟩ := sw3 hs1; rw [wtN, if_neg h0, if_neg h1, if_neg h2, if_neg h3]; rfl))
    · refine lv_tableIn (off := 40) (tgt := 41) hx hb dX9_weight_1 (by omega) (by omega) (by rw [hz1]; rfl) (by decide) ?_
      have hz1 : t = 3 := Int32.toInt_inj.mp (hz1.trans rfl)
      refine lv_ldc (v := 100000) hx hb hown (hts _ tw_270) dX9_weight_41 ?_
      exact re_S hx hb hr hlocks (rfl) dX9_weight_43 (by first | (subst hz1; rfl) | (obtain ⟨h0, h1, h2, h3⟩ := sw3 hs1; rw [wtN, if_neg h0, if_neg h1, if_neg h2, if_neg h3]; rfl))
set_option maxHeartbeats 4000000 in
set_option maxRecDepth 100000 in
theorem k_X9_changed (l : Launch) {p0 v : Nat} {t : Int32} (hp0 : p0 < 25600000) (ht : t = 0 ∨ t = 1 ∨ t = 2 ∨ t = 3) : Met l yX9_changed (wv yX9_changed cX9_changed 3 (some .int)) ({ frames := 1, cells := 0, slots := 0, locals := 21 } : Room) (va_Pc [.int (nI p0), .int t, .int (nI v)] (fun _ => True)) (vp_Si (fun r => r = nI (wthN p0 t v))) 0 0 (fun _ => False) := by
  refine en (by decide +kernel) (by first | exact Nat.le_of_ble_eq_true rfl | decide) ?_
  intro p e s m below meth cd ls hx hb hr hml hown hts hlocks hnm hw hl
  have hl : lv_has ls 3 [(0, .int (nI p0)), (1, .int t), (2, .int (nI v))] := hl
  refine lv_iload_n hx hb dX9_changed_0 rfl (lv_at hl 0 rfl) ?_
  refine lv_iload_n hx hb dX9_changed_1 rfl (lv_at hl 2 rfl) ?_
  refine lv_iload_n hx hb dX9_changed_2 rfl (lv_at hl 0 rfl) ?_
  refine lv_iload_n hx hb dX9_changed_3 rfl (lv_at hl 1 rfl) ?_
  refine cSe (rST (As := [_, _]) ⟨hx, hb, hml, hown, hts⟩ (k_X9_told l hp0) (cv_X9_told hts tw_370 rfl rfl ⟨Nat.le_of_ble_eq_true rfl, Nat.le_of_ble_eq_true rfl⟩) rfl hl.1 rfl (by first | exact Nat.le_of_ble_eq_true rfl | decide) dX9_changed_4 ⟨Nat.zero_le _, Nat.zero_le _⟩) ?_
  refine lv_isub hx hb dX9_changed_7 ?_
  refine lv_iload_n hx hb dX9_changed_8 rfl (lv_at hl 1 rfl) ?_
  refine cSe (rST (As := [_]) ⟨hx, hb, hml, hown, hts⟩ (k_X9_weight l ) (cv_X9_weight hts tw_371 rfl rfl ⟨Nat.le_of_ble_eq_true rfl, Nat.le_of_ble_eq_true rfl⟩) rfl hl.1 rfl (by first | exact Nat.le_of_ble_eq_true rfl | decide) dX9_changed_9 ⟨Nat.zero_le _, Nat.zero_le _⟩) ?_
  refine lv_imul hx hb dX9_changed_12 ?_
  refine lv_iadd hx hb dX9_changed_13 ?_
  exact re_S hx hb hr hlocks (rfl) dX9_changed_14 (wth_eq ht)
set_option maxHeartbeats 4000000 in
set_option maxRecDepth 100000 in
theorem k_X9_together (l : Launch) {a b d q h : Int32} : Met l yX9_together (wv yX9_together cX9_together 5 (some .int)) ({ frames := 0, cells := 0, slots := 0, locals := 0 } : Room) (va_Pc [.int a, .int b, .int d, .int q, .int h] (fun _ => True)) (vp_Si (fun r => r = a + 100 * b + 10000 * d + 100000 * q + 800000 * h)) 0 0 (fun _ => False) := by
  refine en (by decide +kernel) (by first | exact Nat.le_of_ble_eq_true rfl | decide) ?_
  intro p e s m below meth cd ls hx hb hr hml hown hts hlocks hnm hw hl
  have hl : lv_has ls 5 [(0, .int a), (1, .int b), (2, .int d), (3, .int q), (4, .int h)] := hl
  refine lv_iload_n hx hb dX9_together_0 rfl (lv_at hl 0 rfl) ?_
  refine lv_bipush (v := 100) hx hb dX9_together_1 (by decide) ?_
  refine lv_iload_n hx hb dX9_together_3 rfl (lv_at hl 1 rfl) ?_
  refine lv_imul hx hb dX9_together_4 ?_
  refine lv_iadd hx hb dX9_together_5 ?_
  refine lv_sipush (v := 10000) hx hb dX9_together_6 (by decide) ?_
  refine lv_iload_n hx hb dX9_together_9 rfl (lv_at hl 2 rfl) ?_
  refine lv_imul hx hb dX9_together_10 ?_
  refine lv_iadd hx hb dX9_together_11 ?_
  refine lv_ldc (v := 100000) hx hb hown (hts _ tw_270) dX9_together_12 ?_
  refine lv_iload_n hx hb dX9_together_14 rfl (lv_at hl 3 rfl) ?_
  refine lv_imul hx hb dX9_together_15 ?_
  refine lv_iadd hx hb dX9_together_16 ?_
  refine lv_ldc (v := 800000) hx hb hown (hts _ tw_271) dX9_together_17 ?_
  refine lv_iload hx hb dX9_together_19 (lv_at hl 4 rfl) ?_
  refine lv_imul hx hb dX9_together_21 ?_
  refine lv_iadd hx hb dX9_together_22 ?_
  exact re_S hx hb hr hlocks (rfl) dX9_together_23 (rfl)
set_option maxHeartbeats 4000000 in
set_option maxRecDepth 100000 in
theorem k_X11_by (l : Launch) {t : Int32} : Met l yX11_by (wv yX11_by cX11_by 1 (some .int)) ({ frames := 0, cells := 0, slots := 0, locals := 0 } : Room) (va_Pc [.int t] (fun _ => True)) (vp_Si (fun r => r = nI (wtN t))) 0 0 (fun _ => False) := by
  refine en (by decide +kernel) (by first | exact Nat.le_of_ble_eq_true rfl | decide) ?_
  intro p e s m below meth cd ls hx hb hr hml hown hts hlocks hnm hw hl
  have hl : lv_has ls 1 [(0, .int t)] := hl
  refine lv_iload_n hx hb dX11_by_0 rfl (lv_at hl 0 rfl) ?_
  refine lv_if_ne (tgt := 8) hx hb dX11_by_1 (by decide) (fun c1 => ?_) (fun c1 => ?_)
  · refine lv_iload_n hx hb dX11_by_8 rfl (lv_at hl 0 rfl) ?_
    refine lv_iconst (v := 1) hx hb dX11_by_9 (by decide) ?_
    refine lv_icmp_ne (tgt := 18) hx hb dX11_by_10 (by decide) (fun c10 => ?_) (fun c10 => ?_)
    · refine lv_iload_n hx hb dX11_by_18 rfl (lv_at hl 0 rfl) ?_
      refine lv_iconst (v := 2) hx hb dX11_by_19 (by decide) ?_
      refine lv_icmp_ne (tgt := 29) hx hb dX11_by_20 (by decide) (fun c20 => ?_) (fun c20 => ?_)
      · refine lv_iload_n hx hb dX11_by_29 rfl (lv_at hl 0 rfl) ?_
        refine lv_iconst (v := 3) hx hb dX11_by_30 (by decide) ?_
        refine lv_icmp_ne (tgt := 39) hx hb dX11_by_31 (by decide) (fun c31 => ?_) (fun c31 => ?_)
        · refine lv_ldc (v := 800000) hx hb hown (hts _ tw_1025) dX11_by_39 ?_
          exact re_S hx hb hr hlocks (rfl) dX11_by_41 (by simp [wtN, c1, c10, c20, c31] <;> rfl)
        · refine lv_ldc (v := 100000) hx hb hown (hts _ tw_1024) dX11_by_34 ?_
          refine lv_goto (tgt := 41) hx hb dX11_by_36 (by decide) ?_
          exact re_S hx hb hr hlocks (rfl) dX11_by_41 (by simp [wtN, c1, c10, c20, c31] <;> rfl)
      · refine lv_sipush (v := 10000) hx hb dX11_by_23 (by decide) ?_
        refine lv_goto (tgt := 41) hx hb dX11_by_26 (by decide) ?_
        exact re_S hx hb hr hlocks (rfl) dX11_by_41 (by simp [wtN, c1, c10, c20] <;> rfl)
    · refine lv_bipush (v := 100) hx hb dX11_by_13 (by decide) ?_
      refine lv_goto (tgt := 41) hx hb dX11_by_15 (by decide) ?_
      exact re_S hx hb hr hlocks (rfl) dX11_by_41 (by simp [wtN, c1, c10] <;> rfl)
  · refine lv_iconst (v := 1) hx hb dX11_by_4 (by decide) ?_
    refine lv_goto (tgt := 41) hx hb dX11_by_5 (by decide) ?_
    exact re_S hx hb hr hlocks (rfl) dX11_by_41 (by simp [wtN, c1] <;> rfl)
set_option maxHeartbeats 4000000 in
set_option maxRecDepth 100000 in
theorem k_X11_sizeOf (l : Launch) {t : Int32} : Met l yX11_sizeOf (wv yX11_sizeOf cX11_sizeOf 1 (some .int)) ({ frames := 0, cells := 0, slots := 0, locals := 0 } : Room) (va_Pc [.int t] (fun _ => True)) (vp_Si (fun r => r = if t < 2 then 100 else if t = 2 then 10 else if t = 3 then 8 else 32)) 0 0 (fun _ => False) := by
  refine en (by decide +kernel) (by first | exact Nat.le_of_ble_eq_true rfl | decide) ?_
  intro p e s m below meth cd ls hx hb hr hml hown hts hlocks hnm hw hl
  have hl : lv_has ls 1 [(0, .int t)] := hl
  refine lv_iload_n hx hb dX11_sizeOf_0 rfl (lv_at hl 0 rfl) ?_
  refine lv_iconst (v := 2) hx hb dX11_sizeOf_1 (by decide) ?_
  refine lv_icmp_ge (tgt := 10) hx hb dX11_sizeOf_2 (by decide) (fun c2 => ?_) (fun c2 => ?_)
  · refine lv_iload_n hx hb dX11_sizeOf_10 rfl (lv_at hl 0 rfl) ?_
    refine lv_iconst (v := 2) hx hb dX11_sizeOf_11 (by decide) ?_
    refine lv_icmp_ne (tgt := 20) hx hb dX11_sizeOf_12 (by decide) (fun c12 => ?_) (fun c12 => ?_)
    · refine lv_iload_n hx hb dX11_sizeOf_20 rfl (lv_at hl 0 rfl) ?_
      refine lv_iconst (v := 3) hx hb dX11_sizeOf_21 (by decide) ?_
      refine lv_icmp_ne (tgt := 30) hx hb dX11_sizeOf_22 (by decide) (fun c22 => ?_) (fun c22 => ?_)
      · refine lv_bipush (v := 32) hx hb dX11_sizeOf_30 (by decide) ?_
        exact re_S hx hb hr hlocks (rfl) dX11_sizeOf_32 (by simp [c2, c12, c22])
      · refine lv_bipush (v := 8) hx hb dX11_sizeOf_25 (by decide) ?_
        refine lv_goto (tgt := 32) hx hb dX11_sizeOf_27 (by decide) ?_
        exact re_S hx hb hr hlocks (rfl) dX11_sizeOf_32 (by simp [c2, c12, c22])
    · refine lv_bipush (v := 10) hx hb dX11_sizeOf_15 (by decide) ?_
      refine lv_goto (tgt := 32) hx hb dX11_sizeOf_17 (by decide) ?_
      exact re_S hx hb hr hlocks (rfl) dX11_sizeOf_32 (by simp [c2, c12])
  · refine lv_bipush (v := 100) hx hb dX11_sizeOf_5 (by decide) ?_
    refine lv_goto (tgt := 32) hx hb dX11_sizeOf_7 (by decide) ?_
    exact re_S hx hb hr hlocks (rfl) dX11_sizeOf_32 (by simp [c2])
set_option maxHeartbeats 4000000 in
set_option maxRecDepth 100000 in
theorem k_X11_isTrait (l : Launch) {b : Bool} {t : Int32} : Met l yX11_isTrait (wv yX11_isTrait cX11_isTrait 2 (some .boolean)) ({ frames := 1, cells := 0, slots := 0, locals := 22 } : Room) (va_Pc [.int (bi b), .int t] (fun _ => True)) (vp_Si (fun r => r = bi (if b then isSh t else decide (t = 0)))) 0 0 (fun _ => False) := by
  refine en (by decide +kernel) (by first | exact Nat.le_of_ble_eq_true rfl | decide) ?_
  intro p e s m below meth cd ls hx hb hr hml hown hts hlocks hnm hw hl
  have hl : lv_has ls 2 [(0, .int (bi b)), (1, .int t)] := hl
  refine lv_iload_n hx hb dX11_isTrait_0 rfl (lv_at hl 0 rfl) ?_
  refine zb_eq (tgt := 13) hx hb dX11_isTrait_1 (by decide) (fun c1 => ?_) (fun c1 => ?_)
  · refine lv_iload_n hx hb dX11_isTrait_13 rfl (lv_at hl 1 rfl) ?_
    refine lv_if_ne (tgt := 21) hx hb dX11_isTrait_14 (by decide) (fun c14 => ?_) (fun c14 => ?_)
    · refine lv_iconst (v := 0) hx hb dX11_isTrait_21 (by decide) ?_
      exact re_S hx hb hr hlocks (rfl) dX11_isTrait_22 (by simp [bi, isSh, c1, c14])
    · refine lv_iconst (v := 1) hx hb dX11_isTrait_17 (by decide) ?_
      refine lv_goto (tgt := 22) hx hb dX11_isTrait_18 (by decide) ?_
      exact re_S hx hb hr hlocks (rfl) dX11_isTrait_22 (by simp [bi, isSh, c1, c14])
  · refine lv_iload_n hx hb dX11_isTrait_4 rfl (lv_at hl 1 rfl) ?_
    refine lv_iconst (v := 0) hx hb dX11_isTrait_5 (by decide) ?_
    refine lv_iconst (v := 3) hx hb dX11_isTrait_6 (by decide) ?_
    refine cSe (rST (As := [_, _, _]) ⟨hx, hb, hml, hown, hts⟩ (k_X11_in l ) (cv_X11_in hts tw_987 rfl rfl ⟨Nat.le_of_ble_eq_true rfl, Nat.le_of_ble_eq_true rfl⟩) rfl hl.1 rfl (by first | exact Nat.le_of_ble_eq_true rfl | decide) dX11_isTrait_7 ⟨Nat.zero_le _, Nat.zero_le _⟩) ?_
    refine lv_goto (tgt := 22) hx hb dX11_isTrait_10 (by decide) ?_
    exact re_S hx hb hr hlocks (bi_n _) dX11_isTrait_22 (by simp [bi, isSh, c1])
set_option maxHeartbeats 4000000 in
set_option maxRecDepth 100000 in
theorem k_X11_isLess (l : Launch) {t b : Int32} : Met l yX11_isLess (wv yX11_isLess cX11_isLess 2 (some .boolean)) ({ frames := 1, cells := 0, slots := 0, locals := 22 } : Room) (va_Pc [.int t, .int b] (fun _ => True)) (vp_Si (fun r => r = bi (if t = 1 then wn b 1 99 else if t = 2 then wn b 0 99 else decide (b = 0)))) 0 0 (fun _ => False) := by
  refine en (by decide +kernel) (by first | exact Nat.le_of_ble_eq_true rfl | decide) ?_
  intro p e s m below meth cd ls hx hb hr hml hown hts hlocks hnm hw hl
  have hl : lv_has ls 2 [(0, .int t), (1, .int b)] := hl
  refine lv_iload_n hx hb dX11_isLess_0 rfl (lv_at hl 0 rfl) ?_
  refine lv_iconst (v := 1) hx hb dX11_isLess_1 (by decide) ?_
  refine lv_icmp_ne (tgt := 15) hx hb dX11_isLess_2 (by decide) (fun c2 => ?_) (fun c2 => ?_)
  · refine lv_iload_n hx hb dX11_isLess_15 rfl (lv_at hl 0 rfl) ?_
    refine lv_iconst (v := 2) hx hb dX11_isLess_16 (by decide) ?_
    refine lv_icmp_ne (tgt := 30) hx hb dX11_isLess_17 (by decide) (fun c17 => ?_) (fun c17 => ?_)
    · refine lv_iload_n hx hb dX11_isLess_30 rfl (lv_at hl 1 rfl) ?_
      refine lv_if_ne (tgt := 38) hx hb dX11_isLess_31 (by decide) (fun c31 => ?_) (fun c31 => ?_)
      · refine lv_iconst (v := 0) hx hb dX11_isLess_38 (by decide) ?_
        exact re_S hx hb hr hlocks (rfl) dX11_isLess_39 (by simp [bi, c2, c17, c31])
      · refine lv_iconst (v := 1) hx hb dX11_isLess_34 (by decide) ?_
        refine lv_goto (tgt := 39) hx hb dX11_isLess_35 (by decide) ?_
        exact re_S hx hb hr hlocks (rfl) dX11_isLess_39 (by simp [bi, c2, c17, c31])
    · refine lv_iload_n hx hb dX11_isLess_20 rfl (lv_at hl 1 rfl) ?_
      refine lv_iconst (v := 0) hx hb dX11_isLess_21 (by decide) ?_
      refine lv_bipush (v := 99) hx hb dX11_isLess_22 (by decide) ?_
      refine cSe (rST (As := [_, _, _]) ⟨hx, hb, hml, hown, hts⟩ (k_X11_in l ) (cv_X11_in hts tw_987 rfl rfl ⟨Nat.le_of_ble_eq_true rfl, Nat.le_of_ble_eq_true rfl⟩) rfl hl.1 rfl (by first | exact Nat.le_of_ble_eq_true rfl | decide) dX11_isLess_24 ⟨Nat.zero_le _, Nat.zero_le _⟩) ?_
      refine lv_goto (tgt := 39) hx hb dX11_isLess_27 (by decide) ?_
      exact re_S hx hb hr hlocks (bi_n _) dX11_isLess_39 (by simp [bi, c2, c17])
  · refine lv_iload_n hx hb dX11_isLess_5 rfl (lv_at hl 1 rfl) ?_
    refine lv_iconst (v := 1) hx hb dX11_isLess_6 (by decide) ?_
    refine lv_bipush (v := 99) hx hb dX11_isLess_7 (by decide) ?_
    refine cSe (rST (As := [_, _, _]) ⟨hx, hb, hml, hown, hts⟩ (k_X11_in l ) (cv_X11_in hts tw_987 rfl rfl ⟨Nat.le_of_ble_eq_true rfl, Nat.le_of_ble_eq_true rfl⟩) rfl hl.1 rfl (by first | exact Nat.le_of_ble_eq_true rfl | decide) dX11_isLess_9 ⟨Nat.zero_le _, Nat.zero_le _⟩) ?_
    refine lv_goto (tgt := 39) hx hb dX11_isLess_12 (by decide) ?_
    exact re_S hx hb hr hlocks (bi_n _) dX11_isLess_39 (by simp [bi, c2])
set_option maxHeartbeats 4000000 in
set_option maxRecDepth 100000 in
theorem k_X1_isIn (l : Launch) {h x : Int32} : Met l yX1_isIn (wv yX1_isIn cX1_isIn 2 (some .boolean)) ({ frames := 0, cells := 0, slots := 0, locals := 0 } : Room) (va_Pc [.int h, .int x] (fun _ => True)) (vp_Si (fun r => r = bi (isn h x))) 0 0 (fun _ => False) := by
  refine en (by decide +kernel) (by first | exact Nat.le_of_ble_eq_true rfl | decide) ?_
  intro p e s m below meth cd ls hx hb hr hml hown hts hlocks hnm hw hl
  have hl : lv_has ls 2 [(0, .int h), (1, .int x)] := hl
  refine lv_iload_n hx hb dX1_isIn_0 rfl (lv_at hl 0 rfl) ?_
  refine lv_iload_n hx hb dX1_isIn_1 rfl (lv_at hl 1 rfl) ?_
  refine lv_ishr hx hb dX1_isIn_2 ?_
  refine lv_iconst (v := 1) hx hb dX1_isIn_3 (by decide) ?_
  refine lv_iand hx hb dX1_isIn_4 ?_
  refine lv_iconst (v := 1) hx hb dX1_isIn_5 (by decide) ?_
  refine lv_icmp_ne (tgt := 13) hx hb dX1_isIn_6 (by decide) (fun c6 => ?_) (fun c6 => ?_)
  · refine lv_iconst (v := 0) hx hb dX1_isIn_13 (by decide) ?_
    exact re_S hx hb hr hlocks (rfl) dX1_isIn_14 (by simp [bi, isn, c6])
  · refine lv_iconst (v := 1) hx hb dX1_isIn_9 (by decide) ?_
    refine lv_goto (tgt := 14) hx hb dX1_isIn_10 (by decide) ?_
    exact re_S hx hb hr hlocks (rfl) dX1_isIn_14 (by simp [bi, isn, c6])
set_option maxHeartbeats 4000000 in
set_option maxRecDepth 100000 in
theorem k_X1_marksAreSo (l : Launch) {a b d : Int32} : Met l yX1_marksAreSo (wv yX1_marksAreSo cX1_marksAreSo 3 (some .boolean)) ({ frames := 0, cells := 0, slots := 0, locals := 0 } : Room) (va_Pc [.int a, .int b, .int d] (fun _ => True)) (vp_Si (fun r => r = bi (msk3 a b d))) 0 0 (fun _ => False) := by
  refine en (by decide +kernel) (by first | exact Nat.le_of_ble_eq_true rfl | decide) ?_
  intro p e s m below meth cd ls hx hb hr hml hown hts hlocks hnm hw hl
  have hl : lv_has ls 3 [(0, .int a), (1, .int b), (2, .int d)] := hl
  refine lv_iload_n hx hb dX1_marksAreSo_0 rfl (lv_at hl 0 rfl) ?_
  refine lv_iload_n hx hb dX1_marksAreSo_1 rfl (lv_at hl 1 rfl) ?_
  refine lv_iand hx hb dX1_marksAreSo_2 ?_
  refine lv_iload_n hx hb dX1_marksAreSo_3 rfl (lv_at hl 1 rfl) ?_
  refine lv_icmp_ne (tgt := 17) hx hb dX1_marksAreSo_4 (by decide) (fun c4 => ?_) (fun c4 => ?_)
  · refine lv_iconst (v := 0) hx hb dX1_marksAreSo_17 (by decide) ?_
    exact re_S hx hb hr hlocks (rfl) dX1_marksAreSo_18 (by simp [bi, msk3, c4])
  · refine lv_iload_n hx hb dX1_marksAreSo_7 rfl (lv_at hl 0 rfl) ?_
    refine lv_iload_n hx hb dX1_marksAreSo_8 rfl (lv_at hl 2 rfl) ?_
    refine lv_iand hx hb dX1_marksAreSo_9 ?_
    refine lv_if_ne (tgt := 17) hx hb dX1_marksAreSo_10 (by decide) (fun c10 => ?_) (fun c10 => ?_)
    · refine lv_iconst (v := 0) hx hb dX1_marksAreSo_17 (by decide) ?_
      exact re_S hx hb hr hlocks (rfl) dX1_marksAreSo_18 (by simp [bi, msk3, c4, c10])
    · refine lv_iconst (v := 1) hx hb dX1_marksAreSo_13 (by decide) ?_
      refine lv_goto (tgt := 18) hx hb dX1_marksAreSo_14 (by decide) ?_
      exact re_S hx hb hr hlocks (rfl) dX1_marksAreSo_18 (by simp [bi, msk3, c4, c10])
set_option maxHeartbeats 4000000 in
set_option maxRecDepth 100000 in
theorem k_X1_testNeedsTrait (l : Launch) {t : Int32} : Met l yX1_testNeedsTrait (wv yX1_testNeedsTrait cX1_testNeedsTrait 1 (some .boolean)) ({ frames := 0, cells := 0, slots := 0, locals := 0 } : Room) (va_Pc [.int t] (fun _ => True)) (vp_Si (fun r => r = bi (decide (t = 1) || decide (t = 2) || decide (t = 4)))) 0 0 (fun _ => False) := by
  refine en (by decide +kernel) (by first | exact Nat.le_of_ble_eq_true rfl | decide) ?_
  intro p e s m below meth cd ls hx hb hr hml hown hts hlocks hnm hw hl
  have hl : lv_has ls 1 [(0, .int t)] := hl
  refine lv_iload_n hx hb dX1_testNeedsTrait_0 rfl (lv_at hl 0 rfl) ?_
  refine lv_iconst (v := 1) hx hb dX1_testNeedsTrait_1 (by decide) ?_
  refine lv_icmp_eq (tgt := 15) hx hb dX1_testNeedsTrait_2 (by decide) (fun c2 => ?_) (fun c2 => ?_)
  · refine lv_iconst (v := 1) hx hb dX1_testNeedsTrait_15 (by decide) ?_
    refine lv_goto (tgt := 20) hx hb dX1_testNeedsTrait_16 (by decide) ?_
    exact re_S hx hb hr hlocks (rfl) dX1_testNeedsTrait_20 (by simp [bi, c2])
  · refine lv_iload_n hx hb dX1_testNeedsTrait_5 rfl (lv_at hl 0 rfl) ?_
    refine lv_iconst (v := 2) hx hb dX1_testNeedsTrait_6 (by decide) ?_
    refine lv_icmp_eq (tgt := 15) hx hb dX1_testNeedsTrait_7 (by decide) (fun c7 => ?_) (fun c7 => ?_)
    · refine lv_iconst (v := 1) hx hb dX1_testNeedsTrait_15 (by decide) ?_
      refine lv_goto (tgt := 20) hx hb dX1_testNeedsTrait_16 (by decide) ?_
      exact re_S hx hb hr hlocks (rfl) dX1_testNeedsTrait_20 (by simp [bi, c2, c7])
    · refine lv_iload_n hx hb dX1_testNeedsTrait_10 rfl (lv_at hl 0 rfl) ?_
      refine lv_iconst (v := 4) hx hb dX1_testNeedsTrait_11 (by decide) ?_
      refine lv_icmp_ne (tgt := 19) hx hb dX1_testNeedsTrait_12 (by decide) (fun c12 => ?_) (fun c12 => ?_)
      · refine lv_iconst (v := 0) hx hb dX1_testNeedsTrait_19 (by decide) ?_
        exact re_S hx hb hr hlocks (rfl) dX1_testNeedsTrait_20 (by simp [bi, c2, c7, c12])
      · refine lv_iconst (v := 1) hx hb dX1_testNeedsTrait_15 (by decide) ?_
        refine lv_goto (tgt := 20) hx hb dX1_testNeedsTrait_16 (by decide) ?_
        exact re_S hx hb hr hlocks (rfl) dX1_testNeedsTrait_20 (by simp [bi, c2, c7, c12])
set_option maxHeartbeats 4000000 in
set_option maxRecDepth 100000 in
theorem k_X1_grantNeedsTrait (l : Launch) {t : Int32} : Met l yX1_grantNeedsTrait (wv yX1_grantNeedsTrait cX1_grantNeedsTrait 1 (some .boolean)) ({ frames := 0, cells := 0, slots := 0, locals := 0 } : Room) (va_Pc [.int t] (fun _ => True)) (vp_Si (fun r => r = bi (decide (t = 1) || decide (t = 2) || decide (t = 4)))) 0 0 (fun _ => False) := by
  refine en (by decide +kernel) (by first | exact Nat.le_of_ble_eq_true rfl | decide) ?_
  intro p e s m below meth cd ls hx hb hr hml hown hts hlocks hnm hw hl
  have hl : lv_has ls 1 [(0, .int t)] := hl
  refine lv_iload_n hx hb dX1_grantNeedsTrait_0 rfl (lv_at hl 0 rfl) ?_
  refine lv_iconst (v := 1) hx hb dX1_grantNeedsTrait_1 (by decide) ?_
  refine lv_icmp_eq (tgt := 15) hx hb dX1_grantNeedsTrait_2 (by decide) (fun c2 => ?_) (fun c2 => ?_)
  · refine lv_iconst (v := 1) hx hb dX1_grantNeedsTrait_15 (by decide) ?_
    refine lv_goto (tgt := 20) hx hb dX1_grantNeedsTrait_16 (by decide) ?_
    exact re_S hx hb hr hlocks (rfl) dX1_grantNeedsTrait_20 (by simp [bi, c2])
  · refine lv_iload_n hx hb dX1_grantNeedsTrait_5 rfl (lv_at hl 0 rfl) ?_
    refine lv_iconst (v := 2) hx hb dX1_grantNeedsTrait_6 (by decide) ?_
    refine lv_icmp_eq (tgt := 15) hx hb dX1_grantNeedsTrait_7 (by decide) (fun c7 => ?_) (fun c7 => ?_)
    · refine lv_iconst (v := 1) hx hb dX1_grantNeedsTrait_15 (by decide) ?_
      refine lv_goto (tgt := 20) hx hb dX1_grantNeedsTrait_16 (by decide) ?_
      exact re_S hx hb hr hlocks (rfl) dX1_grantNeedsTrait_20 (by simp [bi, c2, c7])
    · refine lv_iload_n hx hb dX1_grantNeedsTrait_10 rfl (lv_at hl 0 rfl) ?_
      refine lv_iconst (v := 4) hx hb dX1_grantNeedsTrait_11 (by decide) ?_
      refine lv_icmp_ne (tgt := 19) hx hb dX1_grantNeedsTrait_12 (by decide) (fun c12 => ?_) (fun c12 => ?_)
      · refine lv_iconst (v := 0) hx hb dX1_grantNeedsTrait_19 (by decide) ?_
        exact re_S hx hb hr hlocks (rfl) dX1_grantNeedsTrait_20 (by simp [bi, c2, c7, c12])
      · refine lv_iconst (v := 1) hx hb dX1_grantNeedsTrait_15 (by decide) ?_
        refine lv_goto (tgt := 20) hx hb dX1_grantNeedsTrait_16 (by decide) ?_
        exact re_S hx hb hr hlocks (rfl) dX1_grantNeedsTrait_20 (by simp [bi, c2, c7, c12])
set_option maxHeartbeats 4000000 in
set_option maxRecDepth 100000 in
theorem k_X1_leastPart (l : Launch) {t : Int32} : Met l yX1_leastPart (wv yX1_leastPart cX1_leastPart 1 (some .int)) ({ frames := 0, cells := 0, slots := 0, locals := 0 } : Room) (va_Pc [.int t] (fun _ => True)) (vp_Si (fun r => r = if t = 1 then 1 else 0)) 0 0 (fun _ => False) := by
  refine en (by decide +kernel) (by first | exact Nat.le_of_ble_eq_true rfl | decide) ?_
  intro p e s m below meth cd ls hx hb hr hml hown hts hlocks hnm hw hl
  have hl : lv_has ls 1 [(0, .int t)] := hl
  refine lv_iload_n hx hb dX1_leastPart_0 rfl (lv_at hl 0 rfl) ?_
  refine lv_iconst (v := 1) hx hb dX1_leastPart_1 (by decide) ?_
  refine lv_icmp_ne (tgt := 9) hx hb dX1_leastPart_2 (by decide) (fun c2 => ?_) (fun c2 => ?_)
  · refine lv_iconst (v := 0) hx hb dX1_leastPart_9 (by decide) ?_
    exact re_S hx hb hr hlocks (rfl) dX1_leastPart_10 (by simp [c2])
  · refine lv_iconst (v := 1) hx hb dX1_leastPart_5 (by decide) ?_
    refine lv_goto (tgt := 10) hx hb dX1_leastPart_6 (by decide) ?_
    exact re_S hx hb hr hlocks (rfl) dX1_leastPart_10 (by simp [c2])
set_option maxHeartbeats 4000000 in
set_option maxRecDepth 100000 in
theorem k_X1_mostPart (l : Launch) {t : Int32} : Met l yX1_mostPart (wv yX1_mostPart cX1_mostPart 1 (some .int)) ({ frames := 0, cells := 0, slots := 0, locals := 0 } : Room) (va_Pc [.int t] (fun _ => True)) (vp_Si (fun r => r = if t = 1 then 99 else if t = 2 then 99 else 0)) 0 0 (fun _ => False) := by
  refine en (by decide +kernel) (by first | exact Nat.le_of_ble_eq_true rfl | decide) ?_
  intro p e s m below meth cd ls hx hb hr hml hown hts hlocks hnm hw hl
  have hl : lv_has ls 1 [(0, .int t)] := hl
  refine lv_iload_n hx hb dX1_mostPart_0 rfl (lv_at hl 0 rfl) ?_
  refine lv_iconst (v := 1) hx hb dX1_mostPart_1 (by decide) ?_
  refine lv_icmp_eq (tgt := 10) hx hb dX1_mostPart_2 (by decide) (fun c2 => ?_) (fun c2 => ?_)
  · refine lv_bipush (v := 99) hx hb dX1_mostPart_10 (by decide) ?_
    refine lv_goto (tgt := 16) hx hb dX1_mostPart_12 (by decide) ?_
    exact re_S hx hb hr hlocks (rfl) dX1_mostPart_16 (by simp [c2])
  · refine lv_iload_n hx hb dX1_mostPart_5 rfl (lv_at hl 0 rfl) ?_
    refine lv_iconst (v := 2) hx hb dX1_mostPart_6 (by decide) ?_
    refine lv_icmp_ne (tgt := 15) hx hb dX1_mostPart_7 (by decide) (fun c7 => ?_) (fun c7 => ?_)
    · refine lv_iconst (v := 0) hx hb dX1_mostPart_15 (by decide) ?_
      exact re_S hx hb hr hlocks (rfl) dX1_mostPart_16 (by simp [c2, c7])
    · refine lv_bipush (v := 99) hx hb dX1_mostPart_10 (by decide) ?_
      refine lv_goto (tgt := 16) hx hb dX1_mostPart_12 (by decide) ?_
      exact re_S hx hb hr hlocks (rfl) dX1_mostPart_16 (by simp [c2, c7])
set_option maxHeartbeats 4000000 in
set_option maxRecDepth 100000 in
theorem k_X7_isLetter (l : Launch) {v : Int32} : Met l yX7_isLetter (wv yX7_isLetter cX7_isLetter 1 (some .boolean)) ({ frames := 0, cells := 0, slots := 0, locals := 0 } : Room) (va_Pc [.int v] (fun _ => True)) (vp_Si (fun r => r = bi (wn v 97 122))) 0 0 (fun _ => False) := by
  refine en (by decide +kernel) (by first | exact Nat.le_of_ble_eq_true rfl | decide) ?_
  intro p e s m below meth cd ls hx hb hr hml hown hts hlocks hnm hw hl
  have hl : lv_has ls 1 [(0, .int v)] := hl
  refine lv_iload_n hx hb dX7_isLetter_0 rfl (lv_at hl 0 rfl) ?_
  refine lv_bipush (v := 97) hx hb dX7_isLetter_1 (by decide) ?_
  refine lv_icmp_lt (tgt := 16) hx hb dX7_isLetter_3 (by decide) (fun c3 => ?_) (fun c3 => ?_)
  · refine lv_iconst (v := 0) hx hb dX7_isLetter_16 (by decide) ?_
    exact re_S hx hb hr hlocks (rfl) dX7_isLetter_17 (by simp [wn, bi, c3])
  · refine lv_iload_n hx hb dX7_isLetter_6 rfl (lv_at hl 0 rfl) ?_
    refine lv_bipush (v := 122) hx hb dX7_isLetter_7 (by decide) ?_
    refine lv_icmp_gt (tgt := 16) hx hb dX7_isLetter_9 (by decide) (fun c9 => ?_) (fun c9 => ?_)
    · refine lv_iconst (v := 0) hx hb dX7_isLetter_16 (by decide) ?_
      exact re_S hx hb hr hlocks (rfl) dX7_isLetter_17 (by simp [wn, bi, c3, c9])
    · refine lv_iconst (v := 1) hx hb dX7_isLetter_12 (by decide) ?_
      refine lv_goto (tgt := 17) hx hb dX7_isLetter_13 (by decide) ?_
      exact re_S hx hb hr hlocks (rfl) dX7_isLetter_17 (by simp [wn, bi, c3, c9])
set_option maxHeartbeats 4000000 in
set_option maxRecDepth 100000 in
theorem k_X7_isDigit (l : Launch) {v : Int32} : Met l yX7_isDigit (wv yX7_isDigit cX7_isDigit 1 (some .boolean)) ({ frames := 0, cells := 0, slots := 0, locals := 0 } : Room) (va_Pc [.int v] (fun _ => True)) (vp_Si (fun r => r = bi (wn v 48 57))) 0 0 (fun _ => False) := by
  refine en (by decide +kernel) (by first | exact Nat.le_of_ble_eq_true rfl | decide) ?_
  intro p e s m below meth cd ls hx hb hr hml hown hts hlocks hnm hw hl
  have hl : lv_has ls 1 [(0, .int v)] := hl
  refine lv_iload_n hx hb dX7_isDigit_0 rfl (lv_at hl 0 rfl) ?_
  refine lv_bipush (v := 48) hx hb dX7_isDigit_1 (by decide) ?_
  refine lv_icmp_lt (tgt := 16) hx hb dX7_isDigit_3 (by decide) (fun c3 => ?_) (fun c3 => ?_)
  · refine lv_iconst (v := 0) hx hb dX7_isDigit_16 (by decide) ?_
    exact re_S hx hb hr hlocks (rfl) dX7_isDigit_17 (by simp [wn, bi, c3])
  · refine lv_iload_n hx hb dX7_isDigit_6 rfl (lv_at hl 0 rfl) ?_
    refine lv_bipush (v := 57) hx hb dX7_isDigit_7 (by decide) ?_
    refine lv_icmp_gt (tgt := 16) hx hb dX7_isDigit_9 (by decide) (fun c9 => ?_) (fun c9 => ?_)
    · refine lv_iconst (v := 0) hx hb dX7_isDigit_16 (by decide) ?_
      exact re_S hx hb hr hlocks (rfl) dX7_isDigit_17 (by simp [wn, bi, c3, c9])
    · refine lv_iconst (v := 1) hx hb dX7_isDigit_12 (by decide) ?_
      refine lv_goto (tgt := 17) hx hb dX7_isDigit_13 (by decide) ?_
      exact re_S hx hb hr hlocks (rfl) dX7_isDigit_17 (by simp [wn, bi, c3, c9])
