/-! FLOATS: a number by its sign, its digits, its exponent -/
theorem fp_log {c k : Nat} (h1 : 2 ^ k ≤ c) (h2 : c < 2 ^ (k + 1)) : c.log2 = k := by
  have hc : c ≠ 0 := by have := Nat.two_pow_pos k; omega
  exact (Nat.log2_eq_iff hc).mpr ⟨h1, h2⟩
theorem fp_lead1 {A L : Nat} (h1 : 2 ^ L ≤ A) (h2 : A < 2 ^ (L + 1)) : FP.Core.leading A 1 = (L : Int) := by
  unfold FP.Core.leading
  rw [fp_log h1 h2, show Nat.log2 1 = 0 by decide]
  have e1 : ((L : Int) - ((0 : Nat) : Int)).toNat = L := by omega
  have e2 : (-((L : Int) - ((0 : Nat) : Int))).toNat = 0 := by omega
  simp only []
  rw [e1, e2, Nat.one_mul, Nat.pow_zero, Nat.mul_one, if_pos h1]
  omega
theorem fp_near {c B : Nat} (hB : 0 < B) : FP.Core.nearest (c * B) B = c := by
  unfold FP.Core.nearest
  rw [Nat.mul_mod_left, Nat.mul_div_cancel _ hB, if_pos (by omega)]
theorem fp_near1 {c : Nat} : FP.Core.nearest c 1 = c := by
  have := fp_near (c := c) (B := 1) (by decide)
  rw [Nat.mul_one] at this
  exact this
theorem fp_bd {A B lo hi : Nat} (hB : 0 < B) (h1 : lo * B ≤ A) (h2 : A ≤ hi * B) : lo ≤ FP.Core.nearest A B ∧ FP.Core.nearest A B ≤ hi := by
  have hlo : lo ≤ A / B := (Nat.le_div_iff_mul_le hB).mpr h1
  have hdm : B * (A / B) + A % B = A := Nat.div_add_mod A B
  have hhi : A / B ≤ hi := by
    have := Nat.div_le_div_right (c := B) h2
    rw [Nat.mul_div_cancel _ hB] at this
    exact this
  have hz : A / B = hi → A % B = 0 := by
    intro e
    rw [e, Nat.mul_comm] at hdm
    omega
  unfold FP.Core.nearest
  by_cases e : A / B = hi
  · rw [hz e, if_pos (by omega)]; omega
  · split
    · omega
    · split
      · omega
      · have : A / B % 2 ≤ 1 := by omega
        omega
theorem tl64 : FP.Core.b64.tails = 4503599627370496 := by decide
theorem ex64 : FP.Core.b64.exps = 2048 := by decide
theorem qn64 : FP.Core.b64.qmin = -1074 := by decide
theorem qx64 : FP.Core.b64.qmax = 971 := by decide
/-- a number with all its digits, within reach -/
def nm64 (c : Nat) (q : Int) : Prop := 4503599627370496 ≤ c ∧ c < 9007199254740992 ∧ -120 ≤ q ∧ q ≤ 60
theorem en64 {s : Bool} {c : Nat} {q : Int} (h : nm64 c q) : FP.Core.encode FP.Core.b64 (.fin s c q) = (s.toNat * 2048 + (q + 1075).toNat) * 4503599627370496 + (c - 4503599627370496) := by
  obtain ⟨h1, h2, h3, h4⟩ := h
  unfold FP.Core.encode FP.Core.assemble
  rw [tl64, ex64, qn64]
  dsimp only
  rw [if_neg (by omega)]
  congr 2
  omega
set_option maxRecDepth 100000 in
theorem de64 {s : Bool} {c : Nat} {q : Int} (h : nm64 c q) : FP.Core.decode FP.Core.b64 (FP.Core.encode FP.Core.b64 (.fin s c q)) = .fin s c q := by
  rw [en64 h]
  obtain ⟨h1, h2, h3, h4⟩ := h
  unfold FP.Core.decode FP.Core.fieldE FP.Core.fieldT FP.Core.fieldS
  rw [tl64, ex64, qn64]
  have hs : s.toNat ≤ 1 := by cases s <;> decide
  generalize hk : (q + 1075).toNat = k
  have hk2 : (k : Int) = q + 1075 := by omega
  have e1 : ((s.toNat * 2048 + k) * 4503599627370496 + (c - 4503599627370496)) % 4503599627370496 = c - 4503599627370496 := by omega
  have e2 : ((s.toNat * 2048 + k) * 4503599627370496 + (c - 4503599627370496)) / 4503599627370496 = s.toNat * 2048 + k := by omega
  rw [e1, e2]
  have e3 : (s.toNat * 2048 + k) % 2048 = k := by omega
  have e4 : (s.toNat * 2048 + k) / 2048 = s.toNat := by omega
  rw [e3, e4, if_neg (by omega), if_neg (by omega)]
  have e5 : (s.toNat % 2 == 1) = s := by cases s <;> rfl
  rw [e5, show 4503599627370496 + (c - 4503599627370496) = c by omega, show (-1074 : Int) + ((k : Int) - 1) = q by omega]
theorem en64_lt {s : Bool} {c : Nat} {q : Int} (h : nm64 c q) : FP.Core.encode FP.Core.b64 (.fin s c q) < 18446744073709551616 := by
  rw [en64 h]
  obtain ⟨h1, h2, h3, h4⟩ := h
  have hs : s.toNat ≤ 1 := by cases s <;> decide
  omega
theorem ze64 : FP.Core.encode FP.Core.b64 (.fin false 0 FP.Core.b64.qmin) = 0 := by decide
theorem zd64 : FP.Core.decode FP.Core.b64 0 = .fin false 0 FP.Core.b64.qmin := by decide
/-- the word holds that number -/
def is64 (r : UInt64) (s : Bool) (c : Nat) (q : Int) : Prop := nm64 c q ∧ r = .ofNat (FP.Core.encode FP.Core.b64 (.fin s c q))
theorem is64.de {r : UInt64} {s : Bool} {c : Nat} {q : Int} (h : is64 r s c q) : FP.Core.decode FP.Core.b64 r.toNat = .fin s c q := by
  rw [h.2, UInt64.toNat_ofNat_of_lt' (en64_lt h.1)]
  exact de64 h.1
theorem is64.nat {r : UInt64} {s : Bool} {c : Nat} {q : Int} (h : is64 r s c q) : r.toNat = (s.toNat * 2048 + (q + 1075).toNat) * 4503599627370496 + (c - 4503599627370496) := by
  rw [h.2, UInt64.toNat_ofNat_of_lt' (en64_lt h.1)]
  exact en64 h.1
theorem is64.nan {r : UInt64} {s : Bool} {c : Nat} {q : Int} (h : is64 r s c q) : vf_n64 r := by
  unfold vf_n64
  rw [UInt64.le_iff_toNat_le, UInt64.toNat_and, show (9223372036854775807 : UInt64).toNat = 9223372036854775808 - 1 by decide, Nat.and_two_pow_sub_one_eq_mod r.toNat 63, h.nat]
  obtain ⟨⟨h1, h2, h3, h4⟩, -⟩ := h
  have e : (s.toNat * 2048 + (q + 1075).toNat) * 4503599627370496 + (c - 4503599627370496) = s.toNat * 9223372036854775808 + ((q + 1075).toNat * 4503599627370496 + (c - 4503599627370496)) := by omega
  rw [e, show (2 : Nat) ^ 63 = 9223372036854775808 by decide, show (9218868437227405312 : UInt64).toNat = 9218868437227405312 by decide]
  omega
theorem nan0_64 : vf_n64 0 := by unfold vf_n64; decide
theorem st64 {s : Bool} {c : Nat} {q : Int} (h1 : c < 9007199254740992) (h2 : q ≤ 60) : FP.Core.settle FP.Core.b64 s c q = .fin s c q := by
  unfold FP.Core.settle FP.Core.bound
  rw [if_pos (show c < 2 ^ FP.Core.Fmt.p FP.Core.b64 from h1), if_pos (by rw [qx64]; omega)]
theorem st64b {s : Bool} {q : Int} (h2 : q ≤ 59) : FP.Core.settle FP.Core.b64 s 9007199254740992 q = .fin s 4503599627370496 (q + 1) := by
  unfold FP.Core.settle FP.Core.bound
  rw [if_neg (show ¬ 9007199254740992 < 2 ^ FP.Core.Fmt.p FP.Core.b64 by decide), if_pos (by rw [qx64]; omega), tl64]
theorem rq64 {s : Bool} {A B : Nat} {e k : Int} (hA : A ≠ 0) (hk : FP.Core.leading A B = k) (h1 : -120 ≤ k + e - 52) : FP.Core.roundRatio FP.Core.b64 s A B e = FP.Core.settle FP.Core.b64 s (FP.Core.nearest (A * 2 ^ ((52 : Int) - k).toNat) (B * 2 ^ (k - (52 : Int)).toNat)) (k + e - 52) := by
  unfold FP.Core.roundRatio FP.Core.roundAt FP.Core.unitsNum FP.Core.unitsDen FP.Core.quantum
  rw [if_neg hA, hk, qn64]
  have e1 : max (-1074 : Int) (k + e - ((FP.Core.Fmt.p FP.Core.b64 : Int) - 1)) = k + e - 52 := by
    have : (FP.Core.Fmt.p FP.Core.b64 : Int) = 53 := rfl
    rw [this]
    omega
  rw [e1, show e - (k + e - 52) = (52 : Int) - k by omega, show k + e - 52 - e = k - (52 : Int) by omega]
/-- a whole number of few digits -/
theorem rw64 {s : Bool} {A L : Nat} {e : Int} (h1 : 2 ^ L ≤ A) (h2 : A < 2 ^ (L + 1)) (hL : L ≤ 52) (h3 : -120 ≤ (L : Int) + e - 52) (h4 : (L : Int) + e - 52 ≤ 60) : FP.Core.roundRatio FP.Core.b64 s A 1 e = .fin s (A * 2 ^ (52 - L)) ((L : Int) + e - 52) ∧ nm64 (A * 2 ^ (52 - L)) ((L : Int) + e - 52) := by
  have hp := Nat.two_pow_pos L
  have hn : nm64 (A * 2 ^ (52 - L)) ((L : Int) + e - 52) := by
    refine ⟨?_, ?_, h3, h4⟩
    · calc 4503599627370496 = 2 ^ L * 2 ^ (52 - L) := by rw [← Nat.pow_add, show L + (52 - L) = 52 by omega]
        _ ≤ A * 2 ^ (52 - L) := Nat.mul_le_mul_right _ h1
    · calc A * 2 ^ (52 - L) < 2 ^ (L + 1) * 2 ^ (52 - L) := Nat.mul_lt_mul_of_pos_right h2 (Nat.two_pow_pos _)
        _ = 9007199254740992 := by rw [← Nat.pow_add, show L + 1 + (52 - L) = 53 by omega]
  refine ⟨?_, hn⟩
  rw [rq64 (k := (L : Int)) (by omega) (fp_lead1 h1 h2) h3, show ((52 : Int) - (L : Int)).toNat = 52 - L by omega, show ((L : Int) - (52 : Int)).toNat = 0 by omega, Nat.pow_zero, Nat.mul_one, fp_near1]
  exact st64 hn.2.1 h4
/-- as many digits as there are, and more that are zero -/
theorem rm64 {s : Bool} {c k : Nat} {q e : Int} (h : nm64 c q) (he : e = q - k) : FP.Core.roundRatio FP.Core.b64 s (c * 2 ^ k) 1 e = .fin s c q := by
  obtain ⟨h1, h2, h3, h4⟩ := h
  subst he
  have hp := Nat.two_pow_pos k
  have a1 : 2 ^ (52 + k) ≤ c * 2 ^ k := by rw [Nat.pow_add]; exact Nat.mul_le_mul_right _ h1
  have a2 : c * 2 ^ k < 2 ^ (52 + k + 1) := by
    rw [show 52 + k + 1 = 53 + k by omega, Nat.pow_add]
    exact Nat.mul_lt_mul_of_pos_right h2 hp
  rw [rq64 (k := ((52 + k : Nat) : Int)) (Nat.ne_of_gt (Nat.mul_pos (by omega) hp)) (fp_lead1 a1 a2) (by omega), show ((52 : Int) - ((52 + k : Nat) : Int)).toNat = 0 by omega, show (((52 + k : Nat) : Int) - (52 : Int)).toNat = k by omega, Nat.pow_zero, Nat.mul_one, Nat.one_mul, fp_near hp, show ((52 + k : Nat) : Int) + (q - k) - 52 = q by omega]
  exact st64 h2 h4
/-- a quotient of two numbers with all their digits -/
theorem rd64 {s : Bool} {c d : Nat} {e : Int} (hc : 4503599627370496 ≤ c ∧ c < 9007199254740992) (hd : 4503599627370496 ≤ d ∧ d < 9007199254740992) (h3 : -60 ≤ e) (h4 : e ≤ 59) : ∃ c' q', FP.Core.roundRatio FP.Core.b64 s c d e = .fin s c' q' ∧ nm64 c' q' ∧ e - 53 ≤ q' ∧ q' ≤ e - 52 + 1 := by
  have fin : ∀ (N : Nat) (Q : Int), 4503599627370496 ≤ N → N ≤ 9007199254740992 → -120 ≤ Q → Q ≤ 59 → ∃ c' q', FP.Core.settle FP.Core.b64 s N Q = .fin s c' q' ∧ nm64 c' q' ∧ Q ≤ q' ∧ q' ≤ Q + 1 := by
    intro N Q g1 g2 g3 g4
    by_cases h : N = 9007199254740992
    · subst h
      exact ⟨4503599627370496, Q + 1, st64b g4, ⟨by decide, by decide, by omega, by omega⟩, by omega, by omega⟩
    · exact ⟨N, Q, st64 (by omega) (by omega), ⟨g1, by omega, by omega, by omega⟩, by omega, by omega⟩
  have lc : c.log2 = 52 := fp_log (k := 52) hc.1 hc.2
  have ld : d.log2 = 52 := fp_log (k := 52) hd.1 hd.2
  by_cases h : d ≤ c
  · have hk : FP.Core.leading c d = 0 := by
      unfold FP.Core.leading
      rw [lc, ld]
      simp only [Int.sub_self]
      rw [if_pos (by simpa using h)]
    rw [rq64 (k := 0) (by omega) hk (by omega)]
    have hb := fp_bd (A := c * 2 ^ ((52 : Int) - 0).toNat) (B := d * 2 ^ (0 - (52 : Int)).toNat) (lo := 4503599627370496) (hi := 9007199254740992) (by show 0 < d * 1; omega) (by show 4503599627370496 * (d * 1) ≤ c * 4503599627370496; omega) (by show c * 4503599627370496 ≤ 9007199254740992 * (d * 1); omega)
    obtain ⟨c', q', a1, a2, a3, a4⟩ := fin _ (0 + e - 52) hb.1 hb.2 (by omega) (by omega)
    exact ⟨c', q', a1, a2, by omega, by omega⟩
  · have hk : FP.Core.leading c d = -1 := by
      unfold FP.Core.leading
      rw [lc, ld]
      simp only [Int.sub_self]
      rw [if_neg (by simpa using h)]
      rfl
    rw [rq64 (k := -1) (by omega) hk (by omega)]
    have hb := fp_bd (A := c * 2 ^ ((52 : Int) - (-1)).toNat) (B := d * 2 ^ (-1 - (52 : Int)).toNat) (lo := 4503599627370496) (hi := 9007199254740992) (by show 0 < d * 1; omega) (by show 4503599627370496 * (d * 1) ≤ c * 9007199254740992; omega) (by show c * 9007199254740992 ≤ 9007199254740992 * (d * 1); omega)
    obtain ⟨c', q', a1, a2, a3, a4⟩ := fin _ (-1 + e - 52) hb.1 hb.2 (by omega) (by omega)
    exact ⟨c', q', a1, a2, by omega, by omega⟩
theorem tl32 : FP.Core.b32.tails = 8388608 := by decide
theorem ex32 : FP.Core.b32.exps = 256 := by decide
theorem qn32 : FP.Core.b32.qmin = -149 := by decide
theorem qx32 : FP.Core.b32.qmax = 104 := by decide
/-- a number with all its digits, within reach -/
def nm32 (c : Nat) (q : Int) : Prop := 8388608 ≤ c ∧ c < 16777216 ∧ -120 ≤ q ∧ q ≤ 60
theorem en32 {s : Bool} {c : Nat} {q : Int} (h : nm32 c q) : FP.Core.encode FP.Core.b32 (.fin s c q) = (s.toNat * 256 + (q + 150).toNat) * 8388608 + (c - 8388608) := by
  obtain ⟨h1, h2, h3, h4⟩ := h
  unfold FP.Core.encode FP.Core.assemble
  rw [tl32, ex32, qn32]
  dsimp only
  rw [if_neg (by omega)]
  congr 2
  omega
set_option maxRecDepth 100000 in
theorem de32 {s : Bool} {c : Nat} {q : Int} (h : nm32 c q) : FP.Core.decode FP.Core.b32 (FP.Core.encode FP.Core.b32 (.fin s c q)) = .fin s c q := by
  rw [en32 h]
  obtain ⟨h1, h2, h3, h4⟩ := h
  unfold FP.Core.decode FP.Core.fieldE FP.Core.fieldT FP.Core.fieldS
  rw [tl32, ex32, qn32]
  have hs : s.toNat ≤ 1 := by cases s <;> decide
  generalize hk : (q + 150).toNat = k
  have hk2 : (k : Int) = q + 150 := by omega
  have e1 : ((s.toNat * 256 + k) * 8388608 + (c - 8388608)) % 8388608 = c - 8388608 := by omega
  have e2 : ((s.toNat * 256 + k) * 8388608 + (c - 8388608)) / 8388608 = s.toNat * 256 + k := by omega
  rw [e1, e2]
  have e3 : (s.toNat * 256 + k) % 256 = k := by omega
  have e4 : (s.toNat * 256 + k) / 256 = s.toNat := by omega
  rw [e3, e4, if_neg (by omega), if_neg (by omega)]
  have e5 : (s.toNat % 2 == 1) = s := by cases s <;> rfl
  rw [e5, show 8388608 + (c - 8388608) = c by omega, show (-149 : Int) + ((k : Int) - 1) = q by omega]
theorem en32_lt {s : Bool} {c : Nat} {q : Int} (h : nm32 c q) : FP.Core.encode FP.Core.b32 (.fin s c q) < 4294967296 := by
  rw [en32 h]
  obtain ⟨h1, h2, h3, h4⟩ := h
  have hs : s.toNat ≤ 1 := by cases s <;> decide
  omega
theorem ze32 : FP.Core.encode FP.Core.b32 (.fin false 0 FP.Core.b32.qmin) = 0 := by decide
theorem zd32 : FP.Core.decode FP.Core.b32 0 = .fin false 0 FP.Core.b32.qmin := by decide
/-- the word holds that number -/
def is32 (r : UInt32) (s : Bool) (c : Nat) (q : Int) : Prop := nm32 c q ∧ r = .ofNat (FP.Core.encode FP.Core.b32 (.fin s c q))
theorem is32.de {r : UInt32} {s : Bool} {c : Nat} {q : Int} (h : is32 r s c q) : FP.Core.decode FP.Core.b32 r.toNat = .fin s c q := by
  rw [h.2, UInt32.toNat_ofNat_of_lt' (en32_lt h.1)]
  exact de32 h.1
theorem is32.nat {r : UInt32} {s : Bool} {c : Nat} {q : Int} (h : is32 r s c q) : r.toNat = (s.toNat * 256 + (q + 150).toNat) * 8388608 + (c - 8388608) := by
  rw [h.2, UInt32.toNat_ofNat_of_lt' (en32_lt h.1)]
  exact en32 h.1
theorem is32.nan {r : UInt32} {s : Bool} {c : Nat} {q : Int} (h : is32 r s c q) : vf_n32 r := by
  unfold vf_n32
  rw [UInt32.le_iff_toNat_le, UInt32.toNat_and, show (2147483647 : UInt32).toNat = 2147483648 - 1 by decide, Nat.and_two_pow_sub_one_eq_mod r.toNat 31, h.nat]
  obtain ⟨⟨h1, h2, h3, h4⟩, -⟩ := h
  have e : (s.toNat * 256 + (q + 150).toNat) * 8388608 + (c - 8388608) = s.toNat * 2147483648 + ((q + 150).toNat * 8388608 + (c - 8388608)) := by omega
  rw [e, show (2 : Nat) ^ 31 = 2147483648 by decide, show (2139095040 : UInt32).toNat = 2139095040 by decide]
  omega
theorem nan0_32 : vf_n32 0 := by unfold vf_n32; decide
theorem st32 {s : Bool} {c : Nat} {q : Int} (h1 : c < 16777216) (h2 : q ≤ 60) : FP.Core.settle FP.Core.b32 s c q = .fin s c q := by
  unfold FP.Core.settle FP.Core.bound
  rw [if_pos (show c < 2 ^ FP.Core.Fmt.p FP.Core.b32 from h1), if_pos (by rw [qx32]; omega)]
theorem st32b {s : Bool} {q : Int} (h2 : q ≤ 59) : FP.Core.settle FP.Core.b32 s 16777216 q = .fin s 8388608 (q + 1) := by
  unfold FP.Core.settle FP.Core.bound
  rw [if_neg (show ¬ 16777216 < 2 ^ FP.Core.Fmt.p FP.Core.b32 by decide), if_pos (by rw [qx32]; omega), tl32]
theorem rq32 {s : Bool} {A B : Nat} {e k : Int} (hA : A ≠ 0) (hk : FP.Core.leading A B = k) (h1 : -120 ≤ k + e - 23) : FP.Core.roundRatio FP.Core.b32 s A B e = FP.Core.settle FP.Core.b32 s (FP.Core.nearest (A * 2 ^ ((23 : Int) - k).toNat) (B * 2 ^ (k - (23 : Int)).toNat)) (k + e - 23) := by
  unfold FP.Core.roundRatio FP.Core.roundAt FP.Core.unitsNum FP.Core.unitsDen FP.Core.quantum
  rw [if_neg hA, hk, qn32]
  have e1 : max (-149 : Int) (k + e - ((FP.Core.Fmt.p FP.Core.b32 : Int) - 1)) = k + e - 23 := by
    have : (FP.Core.Fmt.p FP.Core.b32 : Int) = 24 := rfl
    rw [this]
    omega
  rw [e1, show e - (k + e - 23) = (23 : Int) - k by omega, show k + e - 23 - e = k - (23 : Int) by omega]
/-- a whole number of few digits -/
theorem rw32 {s : Bool} {A L : Nat} {e : Int} (h1 : 2 ^ L ≤ A) (h2 : A < 2 ^ (L + 1)) (hL : L ≤ 23) (h3 : -120 ≤ (L : Int) + e - 23) (h4 : (L : Int) + e - 23 ≤ 60) : FP.Core.roundRatio FP.Core.b32 s A 1 e = .fin s (A * 2 ^ (23 - L)) ((L : Int) + e - 23) ∧ nm32 (A * 2 ^ (23 - L)) ((L : Int) + e - 23) := by
  have hp := Nat.two_pow_pos L
  have hn : nm32 (A * 2 ^ (23 - L)) ((L : Int) + e - 23) := by
    refine ⟨?_, ?_, h3, h4⟩
    · calc 8388608 = 2 ^ L * 2 ^ (23 - L) := by rw [← Nat.pow_add, show L + (23 - L) = 23 by omega]
        _ ≤ A * 2 ^ (23 - L) := Nat.mul_le_mul_right _ h1
    · calc A * 2 ^ (23 - L) < 2 ^ (L + 1) * 2 ^ (23 - L) := Nat.mul_lt_mul_of_pos_right h2 (Nat.two_pow_pos _)
        _ = 16777216 := by rw [← Nat.pow_add, show L + 1 + (23 - L) = 24 by omega]
  refine ⟨?_, hn⟩
  rw [rq32 (k := (L : Int)) (by omega) (fp_lead1 h1 h2) h3, show ((23 : Int) - (L : Int)).toNat = 23 - L by omega, show ((L : Int) - (23 : Int)).toNat = 0 by omega, Nat.pow_zero, Nat.mul_one, fp_near1]
  exact st32 hn.2.1 h4
/-- as many digits as there are, and more that are zero -/
theorem rm32 {s : Bool} {c k : Nat} {q e : Int} (h : nm32 c q) (he : e = q - k) : FP.Core.roundRatio FP.Core.b32 s (c * 2 ^ k) 1 e = .fin s c q := by
  obtain ⟨h1, h2, h3, h4⟩ := h
  subst he
  have hp := Nat.two_pow_pos k
  have a1 : 2 ^ (23 + k) ≤ c * 2 ^ k := by rw [Nat.pow_add]; exact Nat.mul_le_mul_right _ h1
  have a2 : c * 2 ^ k < 2 ^ (23 + k + 1) := by
    rw [show 23 + k + 1 = 24 + k by omega, Nat.pow_add]
    exact Nat.mul_lt_mul_of_pos_right h2 hp
  rw [rq32 (k := ((23 + k : Nat) : Int)) (Nat.ne_of_gt (Nat.mul_pos (by omega) hp)) (fp_lead1 a1 a2) (by omega), show ((23 : Int) - ((23 + k : Nat) : Int)).toNat = 0 by omega, show (((23 + k : Nat) : Int) - (23 : Int)).toNat = k by omega, Nat.pow_zero, Nat.mul_one, Nat.one_mul, fp_near hp, show ((23 + k : Nat) : Int) + (q - k) - 23 = q by omega]
  exact st32 h2 h4
/-- a quotient of two numbers with all their digits -/
theorem rd32 {s : Bool} {c d : Nat} {e : Int} (hc : 8388608 ≤ c ∧ c < 16777216) (hd : 8388608 ≤ d ∧ d < 16777216) (h3 : -60 ≤ e) (h4 : e ≤ 59) : ∃ c' q', FP.Core.roundRatio FP.Core.b32 s c d e = .fin s c' q' ∧ nm32 c' q' ∧ e - 24 ≤ q' ∧ q' ≤ e - 23 + 1 := by
  have fin : ∀ (N : Nat) (Q : Int), 8388608 ≤ N → N ≤ 16777216 → -120 ≤ Q → Q ≤ 59 → ∃ c' q', FP.Core.settle FP.Core.b32 s N Q = .fin s c' q' ∧ nm32 c' q' ∧ Q ≤ q' ∧ q' ≤ Q + 1 := by
    intro N Q g1 g2 g3 g4
    by_cases h : N = 16777216
    · subst h
      exact ⟨8388608, Q + 1, st32b g4, ⟨by decide, by decide, by omega, by omega⟩, by omega, by omega⟩
    · exact ⟨N, Q, st32 (by omega) (by omega), ⟨g1, by omega, by omega, by omega⟩, by omega, by omega⟩
  have lc : c.log2 = 23 := fp_log (k := 23) hc.1 hc.2
  have ld : d.log2 = 23 := fp_log (k := 23) hd.1 hd.2
  by_cases h : d ≤ c
  · have hk : FP.Core.leading c d = 0 := by
      unfold FP.Core.leading
      rw [lc, ld]
      simp only [Int.sub_self]
      rw [if_pos (by simpa using h)]
    rw [rq32 (k := 0) (by omega) hk (by omega)]
    have hb := fp_bd (A := c * 2 ^ ((23 : Int) - 0).toNat) (B := d * 2 ^ (0 - (23 : Int)).toNat) (lo := 8388608) (hi := 16777216) (by show 0 < d * 1; omega) (by show 8388608 * (d * 1) ≤ c * 8388608; omega) (by show c * 8388608 ≤ 16777216 * (d * 1); omega)
    obtain ⟨c', q', a1, a2, a3, a4⟩ := fin _ (0 + e - 23) hb.1 hb.2 (by omega) (by omega)
    exact ⟨c', q', a1, a2, by omega, by omega⟩
  · have hk : FP.Core.leading c d = -1 := by
      unfold FP.Core.leading
      rw [lc, ld]
      simp only [Int.sub_self]
      rw [if_neg (by simpa using h)]
      rfl
    rw [rq32 (k := -1) (by omega) hk (by omega)]
    have hb := fp_bd (A := c * 2 ^ ((23 : Int) - (-1)).toNat) (B := d * 2 ^ (-1 - (23 : Int)).toNat) (lo := 8388608) (hi := 16777216) (by show 0 < d * 1; omega) (by show 8388608 * (d * 1) ≤ c * 16777216; omega) (by show c * 16777216 ≤ 16777216 * (d * 1); omega)
    obtain ⟨c', q', a1, a2, a3, a4⟩ := fin _ (-1 + e - 23) hb.1 hb.2 (by omega) (by omega)
    exact ⟨c', q', a1, a2, by omega, by omega⟩
/-! FLOATS: what the instructions make of such numbers -/
def lI (n : Nat) : Int64 := Int64.ofNat n
theorem lI_add (a b : Nat) : lI a + lI b = lI (a + b) := (Int64.ofNat_add a b).symm
theorem lI_sub {a b : Nat} (h : b ≤ a) : lI a - lI b = lI (a - b) := by
  have e : lI a = lI (a - b) + lI b := by rw [lI_add]; congr 1; omega
  rw [e]
  exact Int64.add_sub_cancel _ _
theorem lI_bv (n : Nat) : (lI n).toBitVec = BitVec.ofNat 64 n := rfl
theorem u_bv (u : UInt64) : u.toInt64.toBitVec = u.toBitVec := rfl
theorem de_two : FP.Core.decode FP.Core.b64 (4611686018427387904 : UInt64).toNat = .fin false 4503599627370496 (-51) := by decide +kernel
theorem de_one : FP.Core.decode FP.Core.b64 (FP.dconst1).toNat = .fin false 4503599627370496 (-52) := by decide +kernel
theorem de_big : FP.Core.decode FP.Core.b64 (4841369599423283200 : UInt64).toNat = .fin false 4503599627370496 0 := by decide +kernel
theorem de_z64 : FP.Core.decode FP.Core.b64 (FP.dconst0).toNat = .fin false 0 (-1074) := by decide +kernel
theorem de_z32 : FP.Core.decode FP.Core.b32 (FP.fconst0).toNat = .fin false 0 (-149) := by decide +kernel
theorem hv64 {m : UInt64} {c : Nat} {q : Int} (h : is64 m false c q) (hq : -119 ≤ q) : is64 (FP.ddiv m 4611686018427387904) false c (q - 1) := by
  have hn : nm64 c (q - 1) := by obtain ⟨h1, h2, h3, h4⟩ := h.1; exact ⟨h1, h2, by omega, by omega⟩
  refine ⟨hn, ?_⟩
  show UInt64.ofNat (FP.Core.encode FP.Core.b64 (FP.Core.quotient FP.Core.b64 (FP.Core.decode FP.Core.b64 m.toNat) (FP.Core.decode FP.Core.b64 (4611686018427387904 : UInt64).toNat))) = _
  rw [h.de, de_two]
  congr 2
  show (if (4503599627370496 : Nat) = 0 then (if c = 0 then FP.Core.Datum.nan else .inf (false != false)) else FP.Core.roundRatio FP.Core.b64 (false != false) c 4503599627370496 (q - -51)) = _
  rw [if_neg (by decide)]
  obtain ⟨h1, h2, h3, h4⟩ := h.1
  have lc : c.log2 = 52 := fp_log (k := 52) h1 h2
  have hk : FP.Core.leading c 4503599627370496 = 0 := by
    unfold FP.Core.leading
    rw [lc, show Nat.log2 4503599627370496 = 52 from fp_log (k := 52) (by decide) (by decide)]
    simp only [Int.sub_self]
    rw [if_pos (by simpa using h1)]
  rw [rq64 (k := 0) (by omega) hk (by omega)]
  have e : FP.Core.nearest (c * 2 ^ ((52 : Int) - 0).toNat) (4503599627370496 * 2 ^ (0 - (52 : Int)).toNat) = c := by
    show FP.Core.nearest (c * 4503599627370496) (4503599627370496 * 1) = c
    rw [Nat.mul_one]
    exact fp_near (by decide)
  rw [e, show (0 : Int) + (q - -51) - 52 = q - 1 by omega]
  exact st64 h2 (by omega)
theorem db64 {m : UInt64} {c : Nat} {q : Int} (h : is64 m false c q) (hq : q ≤ 59) : is64 (FP.dmul m 4611686018427387904) false c (q + 1) := by
  have hn : nm64 c (q + 1) := by obtain ⟨h1, h2, h3, h4⟩ := h.1; exact ⟨h1, h2, by omega, by omega⟩
  refine ⟨hn, ?_⟩
  show UInt64.ofNat (FP.Core.encode FP.Core.b64 (FP.Core.round FP.Core.b64 (FP.Core.exactProduct (FP.Core.decode FP.Core.b64 m.toNat) (FP.Core.decode FP.Core.b64 (4611686018427387904 : UInt64).toNat)))) = _
  rw [h.de, de_two]
  congr 2
  show FP.Core.roundRatio FP.Core.b64 (false != false) (c * 2 ^ 52) 1 (q + -51) = _
  exact rm64 (k := 52) hn (by omega)
theorem cm64 {a b : UInt64} {s t : Bool} {c d : Nat} {q r : Int} (h : FP.Core.decode FP.Core.b64 a.toNat = .fin s c q) (g : FP.Core.decode FP.Core.b64 b.toNat = .fin t d r) : FP.dcmp a b = some (compare (FP.Core.signed s (FP.Core.inUnits c q (min q r))) (FP.Core.signed t (FP.Core.inUnits d r (min q r)))) := by
  show FP.Core.order (FP.Core.decode FP.Core.b64 a.toNat) (FP.Core.decode FP.Core.b64 b.toNat) = _
  rw [h, g]
  rfl
theorem compare_ite' (a b : Int) : compare a b = if a < b then .lt else if a = b then .eq else .gt := rfl
theorem cmp_lt {a b : Int} (h : a < b) : compare a b = .lt := by rw [compare_ite']; rw [if_pos h]
theorem cm_two {m : UInt64} {c : Nat} {q : Int} (h : is64 m false c q) : (q < -51 ∧ FP.dcmp m 4611686018427387904 = some .lt) ∨ (-51 ≤ q ∧ (FP.dcmp m 4611686018427387904 = some .eq ∨ FP.dcmp m 4611686018427387904 = some .gt)) := by
  rw [cm64 h.de de_two]
  obtain ⟨h1, h2, h3, h4⟩ := h.1
  show (q < -51 ∧ some (compare (((c * 2 ^ (q - min q (-51)).toNat : Nat)) : Int) (((4503599627370496 * 2 ^ (-51 - min q (-51)).toNat : Nat)) : Int)) = some .lt) ∨ _
  by_cases g : q < -51
  · left
    refine ⟨g, ?_⟩
    rw [show min q (-51) = q by omega, show (q - q).toNat = 0 by omega, Nat.pow_zero, Nat.mul_one]
    obtain ⟨k, hk⟩ : ∃ k, (-51 - q).toNat = k + 1 := ⟨(-51 - q).toNat - 1, by omega⟩
    rw [hk, Nat.pow_succ]
    have := Nat.two_pow_pos k
    have e : (c : Int) < ((4503599627370496 * (2 ^ k * 2) : Nat) : Int) := by
      have : 4503599627370496 * 1 ≤ 4503599627370496 * 2 ^ k := Nat.mul_le_mul_left _ this
      omega
    rw [cmp_lt e]
  · right
    refine ⟨by omega, ?_⟩
    show some (compare (((c * 2 ^ (q - min q (-51)).toNat : Nat)) : Int) (((4503599627370496 * 2 ^ (-51 - min q (-51)).toNat : Nat)) : Int)) = some .eq ∨ some (compare (((c * 2 ^ (q - min q (-51)).toNat : Nat)) : Int) (((4503599627370496 * 2 ^ (-51 - min q (-51)).toNat : Nat)) : Int)) = some .gt
    rw [show min q (-51) = -51 by omega, show ((-51 : Int) - -51).toNat = 0 by omega, Nat.pow_zero, Nat.mul_one]
    have := Nat.two_pow_pos (q - -51).toNat
    have e : 4503599627370496 ≤ c * 2 ^ (q - -51).toNat := Nat.le_trans h1 (Nat.le_mul_of_pos_right _ this)
    rcases Nat.lt_or_ge 4503599627370496 (c * 2 ^ (q - -51).toNat) with z | z
    · right; rw [compare_ite', if_neg (by omega), if_neg (by omega)]
    · left; rw [compare_ite', if_neg (by omega), if_pos (by omega)]
theorem cm_one {m : UInt64} {c : Nat} {q : Int} (h : is64 m false c q) : (q < -52 ∧ FP.dcmp m FP.dconst1 = some .lt) ∨ (-52 ≤ q ∧ (FP.dcmp m FP.dconst1 = some .eq ∨ FP.dcmp m FP.dconst1 = some .gt)) := by
  rw [cm64 h.de de_one]
  obtain ⟨h1, h2, h3, h4⟩ := h.1
  show (q < -52 ∧ some (compare (((c * 2 ^ (q - min q (-52)).toNat : Nat)) : Int) (((4503599627370496 * 2 ^ (-52 - min q (-52)).toNat : Nat)) : Int)) = some .lt) ∨ _
  by_cases g : q < -52
  · left
    refine ⟨g, ?_⟩
    rw [show min q (-52) = q by omega, show (q - q).toNat = 0 by omega, Nat.pow_zero, Nat.mul_one]
    obtain ⟨k, hk⟩ : ∃ k, (-52 - q).toNat = k + 1 := ⟨(-52 - q).toNat - 1, by omega⟩
    rw [hk, Nat.pow_succ]
    have := Nat.two_pow_pos k
    have e : (c : Int) < ((4503599627370496 * (2 ^ k * 2) : Nat) : Int) := by
      have : 4503599627370496 * 1 ≤ 4503599627370496 * 2 ^ k := Nat.mul_le_mul_left _ this
      omega
    rw [cmp_lt e]
  · right
    refine ⟨by omega, ?_⟩
    show some (compare (((c * 2 ^ (q - min q (-52)).toNat : Nat)) : Int) (((4503599627370496 * 2 ^ (-52 - min q (-52)).toNat : Nat)) : Int)) = some .eq ∨ some (compare (((c * 2 ^ (q - min q (-52)).toNat : Nat)) : Int) (((4503599627370496 * 2 ^ (-52 - min q (-52)).toNat : Nat)) : Int)) = some .gt
    rw [show min q (-52) = -52 by omega, show ((-52 : Int) - -52).toNat = 0 by omega, Nat.pow_zero, Nat.mul_one]
    have := Nat.two_pow_pos (q - -52).toNat
    have e : 4503599627370496 ≤ c * 2 ^ (q - -52).toNat := Nat.le_trans h1 (Nat.le_mul_of_pos_right _ this)
    rcases Nat.lt_or_ge 4503599627370496 (c * 2 ^ (q - -52).toNat) with z | z
    · right; rw [compare_ite', if_neg (by omega), if_neg (by omega)]
    · left; rw [compare_ite', if_neg (by omega), if_pos (by omega)]
theorem cm_zero {m : UInt64} {s : Bool} {c : Nat} {q : Int} (h : is64 m s c q) : FP.dcmp m FP.dconst0 = some (if s = true then .lt else .gt) := by
  rw [cm64 h.de de_z64]
  obtain ⟨h1, h2, h3, h4⟩ := h.1
  have := Nat.two_pow_pos (q - min q (-1074)).toNat
  have e : 0 < c * 2 ^ (q - min q (-1074)).toNat := Nat.mul_pos (by omega) this
  show some (compare (FP.Core.signed s (c * 2 ^ (q - min q (-1074)).toNat)) (((0 * 2 ^ (-1074 - min q (-1074)).toNat : Nat)) : Int)) = _
  rw [Nat.zero_mul]
  congr 1
  cases s with
  | true =>
    show compare (-((c * 2 ^ (q - min q (-1074)).toNat : Nat) : Int)) 0 = .lt
    rw [compare_ite', if_pos (by omega)]
  | false =>
    show compare (((c * 2 ^ (q - min q (-1074)).toNat : Nat) : Int)) 0 = .gt
    rw [compare_ite', if_neg (by omega), if_neg (by omega)]
theorem xor63 {x : Nat} (h : x < 2 ^ 63) : (2 ^ 63 + x) ^^^ 2 ^ 63 = x := by
  apply Nat.eq_of_testBit_eq
  intro i
  rw [Nat.testBit_xor, Nat.testBit_two_pow]
  rcases Nat.lt_trichotomy i 63 with h1 | h1 | h1
  · rw [Nat.testBit_two_pow_add_gt h1, decide_eq_false (by omega), Bool.xor_false]
  · subst h1
    rw [Nat.testBit_two_pow_add_eq, Nat.testBit_lt_two_pow h]
    rfl
  · have h2 : 2 ^ 64 ≤ 2 ^ i := Nat.pow_le_pow_right (by decide) h1
    rw [Nat.testBit_lt_two_pow (x := 2 ^ 63 + x) (by omega), Nat.testBit_lt_two_pow (x := x) (by omega), decide_eq_false (by omega)]
    rfl
set_option maxRecDepth 100000 in
theorem ng64 {m : UInt64} {c : Nat} {q : Int} (h : is64 m true c q) : is64 (FP.dneg m) false c q := by
  refine ⟨h.1, ?_⟩
  have hn := h.nat
  obtain ⟨h1, h2, h3, h4⟩ := h.1
  have e := en64 (s := false) h.1
  apply UInt64.toNat_inj.mp
  rw [UInt64.toNat_ofNat_of_lt' (en64_lt h.1), e]
  show (m ^^^ 9223372036854775808).toNat = _
  rw [UInt64.toNat_xor, hn, show (9223372036854775808 : UInt64).toNat = 2 ^ 63 by decide]
  generalize hk : (q + 1075).toNat = k
  have hk2 : k < 2048 := by omega
  have e2 : (true.toNat * 2048 + k) * 4503599627370496 + (c - 4503599627370496) = 2 ^ 63 + (k * 4503599627370496 + (c - 4503599627370496)) := by
    rw [Bool.toNat_true]
    omega
  rw [e2, xor63 (by show _ < 9223372036854775808; omega)]
  rw [Bool.toNat_false, Nat.zero_mul, Nat.zero_add]
set_option maxRecDepth 100000 in
/-- the digits behind the leading one, as a whole number -/
theorem fr64 {m : UInt64} {c : Nat} (h : is64 m false c (-52)) : vf_n64 (FP.dsub m FP.dconst1) ∧ vf_n64 (FP.dmul (FP.dsub m FP.dconst1) 4841369599423283200) ∧ FP.d2l (FP.dmul (FP.dsub m FP.dconst1) 4841369599423283200) = lI (c - 4503599627370496) := by
  obtain ⟨h1, h2, h3, h4⟩ := h.1
  have es : FP.dsub m FP.dconst1 = UInt64.ofNat (FP.Core.encode FP.Core.b64 (FP.Core.roundRatio FP.Core.b64 false (c - 4503599627370496) 1 (-52))) := by
    show UInt64.ofNat (FP.Core.encode FP.Core.b64 (FP.Core.round FP.Core.b64 (FP.Core.exactSum (FP.Core.decode FP.Core.b64 m.toNat) (FP.Core.negate (FP.Core.decode FP.Core.b64 FP.dconst1.toNat))))) = _
    rw [h.de, de_one]
    have e1 : FP.Core.sumUnits false c (-52) true 4503599627370496 (-52) (-52) = ((c - 4503599627370496 : Nat) : Int) := by
      unfold FP.Core.sumUnits FP.Core.inUnits FP.Core.signed
      rw [if_neg (by decide), if_pos rfl, show ((-52 : Int) - -52).toNat = 0 by decide, Nat.pow_zero, Nat.mul_one, Nat.mul_one]
      omega
    show UInt64.ofNat (FP.Core.encode FP.Core.b64 (FP.Core.roundRatio FP.Core.b64 (FP.Core.sumSign false true (FP.Core.sumUnits false c (-52) true 4503599627370496 (-52) (-52))) (FP.Core.sumUnits false c (-52) true 4503599627370496 (-52) (-52)).natAbs 1 (-52))) = _
    have hs : FP.Core.sumSign false true ((c - 4503599627370496 : Nat) : Int) = false := by
      unfold FP.Core.sumSign
      split
      · rfl
      · exact decide_eq_false (by omega)
    rw [e1, Int.natAbs_natCast, hs]
  generalize hr : FP.dsub m FP.dconst1 = r at es
  generalize ht : c - 4503599627370496 = t at es
  have htl : t < 4503599627370496 := by omega
  by_cases h0 : t = 0
  · subst h0
    have er : r = 0 := by rw [es]; decide
    subst er
    refine ⟨nan0_64, ?_, ?_⟩
    · rw [show FP.dmul 0 4841369599423283200 = 0 by decide +kernel]; exact nan0_64
    · rw [show FP.dmul 0 4841369599423283200 = 0 by decide +kernel]; decide +kernel
  · obtain ⟨L, hL⟩ : ∃ L, t.log2 = L := ⟨_, rfl⟩
    obtain ⟨g1, g2⟩ := (Nat.log2_eq_iff h0).mp hL
    have hL2 : L ≤ 51 := by
      rcases Nat.lt_or_ge 51 L with z | z
      · have : 2 ^ 52 ≤ 2 ^ L := Nat.pow_le_pow_right (by decide) z
        omega
      · exact z
    obtain ⟨e1, e2⟩ := rw64 (s := false) (e := -52) g1 g2 (by omega) (by omega) (by omega)
    rw [e1] at es
    have hi : is64 r false (t * 2 ^ (52 - L)) ((L : Int) + -52 - 52) := ⟨e2, es⟩
    have em : FP.dmul r 4841369599423283200 = UInt64.ofNat (FP.Core.encode FP.Core.b64 (.fin false (t * 2 ^ (52 - L)) ((L : Int) - 52))) := by
      show UInt64.ofNat (FP.Core.encode FP.Core.b64 (FP.Core.round FP.Core.b64 (FP.Core.exactProduct (FP.Core.decode FP.Core.b64 r.toNat) (FP.Core.decode FP.Core.b64 (4841369599423283200 : UInt64).toNat)))) = _
      rw [hi.de, de_big]
      have z := rm64 (s := false) (c := t * 2 ^ (52 - L)) (k := 52) (q := (L : Int) - 52) (e := (L : Int) + -52 - 52 + 0) ⟨e2.1, e2.2.1, by omega, by omega⟩ (by omega)
      rw [show (2 : Nat) ^ 52 = 4503599627370496 by decide] at z
      show UInt64.ofNat (FP.Core.encode FP.Core.b64 (FP.Core.roundRatio FP.Core.b64 false (t * 2 ^ (52 - L) * 4503599627370496) 1 ((L : Int) + -52 - 52 + 0))) = _
      rw [z]
    have hi2 : is64 (FP.dmul r 4841369599423283200) false (t * 2 ^ (52 - L)) ((L : Int) - 52) := ⟨⟨e2.1, e2.2.1, by omega, by omega⟩, em⟩
    refine ⟨hi.nan, hi2.nan, ?_⟩
    show FP.Core.toL (FP.Core.decode FP.Core.b64 (FP.dmul r 4841369599423283200).toNat) = _
    rw [hi2.de]
    have e3 : FP.Core.truncate false (t * 2 ^ (52 - L)) ((L : Int) - 52) = (t : Int) := by
      show (((t * 2 ^ (52 - L) * 2 ^ ((L : Int) - 52).toNat / 2 ^ (-((L : Int) - 52)).toNat : Nat)) : Int) = (t : Int)
      rw [show ((L : Int) - 52).toNat = 0 by omega, show (-((L : Int) - 52)).toNat = 52 - L by omega, Nat.pow_zero, Nat.mul_one, Nat.mul_div_cancel _ (Nat.two_pow_pos _)]
    show Int64.ofInt (max (-2 ^ 63) (min (2 ^ 63 - 1) (FP.Core.truncate false (t * 2 ^ (52 - L)) ((L : Int) - 52)))) = Int64.ofNat t
    rw [e3, show max (-2 ^ 63 : Int) (min (2 ^ 63 - 1) (t : Int)) = (t : Int) by omega]
    exact Int64.ofInt_eq_ofNat
theorem lt64 {s e t : Nat} (hs : s ≤ 1) (he : e < 2048) (ht : t < 4503599627370496) : (s * 2048 + e) * 4503599627370496 + t < 18446744073709551616 := by omega
set_option maxRecDepth 100000 in
/-- the bits, put together -/
theorem bt64 {s : Bool} {e t : Nat} (he : e < 2048) (ht : t < 4503599627370496) : ((if s = true then (-9223372036854775808 : Int64) else 0) ||| lI e <<< ((52 : Int32).toInt64 &&& 63)) ||| lI t = (UInt64.ofNat ((s.toNat * 2048 + e) * 4503599627370496 + t)).toInt64 := by
  apply Int64.toBitVec_inj.mp
  apply BitVec.eq_of_toNat_eq
  have a1 : (lI e <<< ((52 : Int32).toInt64 &&& 63)).toBitVec = BitVec.ofNat 64 e <<< 52 := rfl
  have hs : (if s = true then (-9223372036854775808 : Int64) else 0).toBitVec.toNat = s.toNat * 2 ^ 63 := by cases s <;> decide
  have e1 : e * 4503599627370496 < 2 ^ 63 := by show _ < 9223372036854775808; omega
  have hs1 : s.toNat ≤ 1 := by cases s <;> decide
  rw [Int64.toBitVec_or, Int64.toBitVec_or, BitVec.toNat_or, BitVec.toNat_or, hs, a1, BitVec.toNat_shiftLeft, BitVec.toNat_ofNat, Nat.mod_eq_of_lt (show e < 2 ^ 64 by omega), Nat.shiftLeft_eq, Nat.mod_eq_of_lt (show e * 2 ^ 52 < 2 ^ 64 by omega), lI_bv, BitVec.toNat_ofNat, Nat.mod_eq_of_lt (show t < 2 ^ 64 by omega), u_bv]
  show _ = (UInt64.ofNat ((s.toNat * 2048 + e) * 4503599627370496 + t)).toNat
  have hlt : (s.toNat * 2048 + e) * 4503599627370496 + t < 18446744073709551616 := lt64 hs1 he ht
  rw [UInt64.toNat_ofNat_of_lt' hlt, Nat.mul_comm s.toNat (2 ^ 63), ← Nat.two_pow_add_eq_or_of_lt e1, show 2 ^ 63 * s.toNat + e * 4503599627370496 = 2 ^ 52 * (2048 * s.toNat + e) by omega, ← Nat.two_pow_add_eq_or_of_lt (show t < 2 ^ 52 from ht)]
  omega
theorem is64.i64 {r : UInt64} {s : Bool} {c : Nat} {q : Int} (h : is64 r s c q) : r.toInt64 = ((if s = true then (-9223372036854775808 : Int64) else 0) ||| lI (q + 1075).toNat <<< ((52 : Int32).toInt64 &&& 63)) ||| lI (c - 4503599627370496) := by
  obtain ⟨h1, h2, h3, h4⟩ := h.1
  rw [bt64 (by omega) (by omega), ← en64 h.1, ← h.2]
/-! FLOATS: whole numbers, quotients, sums -/
theorem i2d0 : FP.i2d 0 = 0 := by decide +kernel
theorem i2f0 : FP.i2f 0 = 0 := by decide +kernel
theorem i2d_is {x : Int32} (hx : x ≠ 0) : ∃ c q, is64 (FP.i2d x) (decide (x.toInt < 0)) c q ∧ -52 ≤ q ∧ q ≤ -21 := by
  have h0 : x.toInt.natAbs ≠ 0 := fun e => hx (Int32.toInt_inj.mp (by show x.toInt = (0 : Int); omega))
  have hb : x.toInt.natAbs < 2 ^ 32 := by have := x.toInt_lt; have := x.le_toInt; omega
  obtain ⟨L, hL⟩ : ∃ L, x.toInt.natAbs.log2 = L := ⟨_, rfl⟩
  obtain ⟨g1, g2⟩ := (Nat.log2_eq_iff h0).mp hL
  have hL2 : L ≤ 31 := by
    rcases Nat.lt_or_ge 31 L with z | z
    · have : 2 ^ 32 ≤ 2 ^ L := Nat.pow_le_pow_right (by decide) z
      omega
    · exact z
  obtain ⟨e1, e2⟩ := rw64 (s := decide (x.toInt < 0)) (e := 0) g1 g2 (by omega) (by omega) (by omega)
  refine ⟨_, _, ⟨e2, ?_⟩, by omega, by omega⟩
  show UInt64.ofNat (FP.Core.encode FP.Core.b64 (FP.Core.roundRatio FP.Core.b64 (decide (x.toInt < 0)) x.toInt.natAbs 1 0)) = _
  rw [e1]
theorem i2f_is {n : Nat} (hn : n ≠ 0) (hb : n < 2 ^ 21) : ∃ c q, is32 (FP.i2f (nI n)) false c q ∧ -23 ≤ q ∧ q ≤ -3 := by
  have ht : (nI n).toInt = (n : Int) := nI_toInt (by omega)
  obtain ⟨L, hL⟩ : ∃ L, n.log2 = L := ⟨_, rfl⟩
  obtain ⟨g1, g2⟩ := (Nat.log2_eq_iff hn).mp hL
  have hL2 : L ≤ 20 := by
    rcases Nat.lt_or_ge 20 L with z | z
    · have : 2 ^ 21 ≤ 2 ^ L := Nat.pow_le_pow_right (by decide) z
      omega
    · exact z
  obtain ⟨e1, e2⟩ := rw32 (s := false) (e := 0) g1 g2 (by omega) (by omega) (by omega)
  refine ⟨_, _, ⟨e2, ?_⟩, by omega, by omega⟩
  show UInt32.ofNat (FP.Core.encode FP.Core.b32 (FP.Core.roundRatio FP.Core.b32 (decide ((nI n).toInt < 0)) (nI n).toInt.natAbs 1 0)) = _
  rw [ht, Int.natAbs_natCast, decide_eq_false (by omega), e1]
theorem dv64 {a b : UInt64} {s : Bool} {c d : Nat} {q r : Int} (h : is64 a s c q) (g : is64 b false d r) (h1 : -60 ≤ q - r) (h2 : q - r ≤ 59) : ∃ c' q', is64 (FP.ddiv a b) s c' q' ∧ q - r - 53 ≤ q' ∧ q' ≤ q - r - 51 := by
  obtain ⟨c', q', e1, e2, e3, e4⟩ := rd64 (s := s != false) ⟨h.1.1, h.1.2.1⟩ ⟨g.1.1, g.1.2.1⟩ h1 h2
  refine ⟨c', q', ⟨e2, ?_⟩, e3, by omega⟩
  show UInt64.ofNat (FP.Core.encode FP.Core.b64 (FP.Core.quotient FP.Core.b64 (FP.Core.decode FP.Core.b64 a.toNat) (FP.Core.decode FP.Core.b64 b.toNat))) = _
  rw [h.de, g.de]
  have e5 : FP.Core.quotient FP.Core.b64 (.fin s c q) (.fin false d r) = FP.Core.roundRatio FP.Core.b64 (s != false) c d (q - r) := by
    have hd : d ≠ 0 := by have := g.1.1; omega
    unfold FP.Core.quotient
    simp only [hd, if_false]
  rw [e5, e1]
  cases s <;> rfl
theorem dv32 {a b : UInt32} {s : Bool} {c d : Nat} {q r : Int} (h : is32 a s c q) (g : is32 b false d r) (h1 : -60 ≤ q - r) (h2 : q - r ≤ 59) : ∃ c' q', is32 (FP.fdiv a b) s c' q' ∧ q - r - 24 ≤ q' ∧ q' ≤ q - r - 22 := by
  obtain ⟨c', q', e1, e2, e3, e4⟩ := rd32 (s := s != false) ⟨h.1.1, h.1.2.1⟩ ⟨g.1.1, g.1.2.1⟩ h1 h2
  refine ⟨c', q', ⟨e2, ?_⟩, e3, by omega⟩
  show UInt32.ofNat (FP.Core.encode FP.Core.b32 (FP.Core.quotient FP.Core.b32 (FP.Core.decode FP.Core.b32 a.toNat) (FP.Core.decode FP.Core.b32 b.toNat))) = _
  rw [h.de, g.de]
  have e5 : FP.Core.quotient FP.Core.b32 (.fin s c q) (.fin false d r) = FP.Core.roundRatio FP.Core.b32 (s != false) c d (q - r) := by
    have hd : d ≠ 0 := by have := g.1.1; omega
    unfold FP.Core.quotient
    simp only [hd, if_false]
  rw [e5, e1]
  cases s <;> rfl
/-- zero over a number -/
theorem zd_64 {b : UInt64} {d : Nat} {r : Int} (g : is64 b false d r) : FP.ddiv 0 b = 0 := by
  show UInt64.ofNat (FP.Core.encode FP.Core.b64 (FP.Core.quotient FP.Core.b64 (FP.Core.decode FP.Core.b64 (0 : UInt64).toNat) (FP.Core.decode FP.Core.b64 b.toNat))) = _
  rw [g.de, show FP.Core.decode FP.Core.b64 (0 : UInt64).toNat = .fin false 0 (-1074) by decide +kernel]
  have e5 : FP.Core.quotient FP.Core.b64 (.fin false 0 (-1074)) (.fin false d r) = .fin false 0 FP.Core.b64.qmin := by
    have hd : d ≠ 0 := by have := g.1.1; omega
    unfold FP.Core.quotient FP.Core.roundRatio
    simp only [hd, if_false, if_true]
    rfl
  rw [e5, ze64]
  rfl
theorem zd_32 {b : UInt32} {d : Nat} {r : Int} (g : is32 b false d r) : FP.fdiv 0 b = 0 := by
  show UInt32.ofNat (FP.Core.encode FP.Core.b32 (FP.Core.quotient FP.Core.b32 (FP.Core.decode FP.Core.b32 (0 : UInt32).toNat) (FP.Core.decode FP.Core.b32 b.toNat))) = _
  rw [g.de, show FP.Core.decode FP.Core.b32 (0 : UInt32).toNat = .fin false 0 (-149) by decide +kernel]
  have e5 : FP.Core.quotient FP.Core.b32 (.fin false 0 (-149)) (.fin false d r) = .fin false 0 FP.Core.b32.qmin := by
    have hd : d ≠ 0 := by have := g.1.1; omega
    unfold FP.Core.quotient FP.Core.roundRatio
    simp only [hd, if_false, if_true]
    rfl
  rw [e5, ze32]
  rfl
theorem sum32 {a b : UInt32} {c d : Nat} {q r : Int} (h : FP.Core.decode FP.Core.b32 a.toNat = .fin false c q) (g : FP.Core.decode FP.Core.b32 b.toNat = .fin false d r) (hz : c * 2 ^ (q - min q r).toNat + d * 2 ^ (r - min q r).toNat ≠ 0) : FP.fadd a b = UInt32.ofNat (FP.Core.encode FP.Core.b32 (FP.Core.roundRatio FP.Core.b32 false (c * 2 ^ (q - min q r).toNat + d * 2 ^ (r - min q r).toNat) 1 (min q r))) := by
  show UInt32.ofNat (FP.Core.encode FP.Core.b32 (FP.Core.round FP.Core.b32 (FP.Core.exactSum (FP.Core.decode FP.Core.b32 a.toNat) (FP.Core.decode FP.Core.b32 b.toNat)))) = _
  rw [h, g]
  have e1 : FP.Core.sumUnits false c q false d r (min q r) = ((c * 2 ^ (q - min q r).toNat + d * 2 ^ (r - min q r).toNat : Nat) : Int) := by
    unfold FP.Core.sumUnits FP.Core.inUnits FP.Core.signed
    rw [if_neg (by decide), if_neg (by decide)]
    omega
  have e2 : FP.Core.exactSum (.fin false c q) (.fin false d r) = .fin (FP.Core.sumSign false false (FP.Core.sumUnits false c q false d r (min q r))) (FP.Core.sumUnits false c q false d r (min q r)).natAbs (min q r) := rfl
  rw [e2, e1, Int.natAbs_natCast]
  have hs : FP.Core.sumSign false false ((c * 2 ^ (q - min q r).toNat + d * 2 ^ (r - min q r).toNat : Nat) : Int) = false := by
    unfold FP.Core.sumSign
    split
    · rfl
    · exact decide_eq_false (by omega)
  rw [hs]
  rfl
theorem ra32 {x y D : Nat} {m : Int} (hx : 8388608 ≤ x ∧ x < 16777216) (hy : y < 16777216) (h1 : -120 ≤ (D : Int) + m) (h2 : (D : Int) + m ≤ 58) : ∃ c' q', FP.Core.roundRatio FP.Core.b32 false (x * 2 ^ D + y) 1 m = .fin false c' q' ∧ nm32 c' q' ∧ (D : Int) + m ≤ q' ∧ q' ≤ (D : Int) + m + 1 := by
  have hD := Nat.two_pow_pos D
  have hlo : 2 ^ (23 + D) ≤ x * 2 ^ D + y := by
    rw [Nat.pow_add]
    have : 2 ^ 23 * 2 ^ D ≤ x * 2 ^ D := Nat.mul_le_mul_right _ hx.1
    omega
  have hx2 : x * 2 ^ D ≤ 16777215 * 2 ^ D := Nat.mul_le_mul_right _ (by omega)
  have hy2 : y ≤ 16777215 * 2 ^ D := Nat.le_trans (by omega : y ≤ 16777215 * 1) (Nat.mul_le_mul_left _ hD)
  by_cases hu : x * 2 ^ D + y < 2 ^ (23 + D + 1)
  · rw [rq32 (k := ((23 + D : Nat) : Int)) (by have := Nat.two_pow_pos (23 + D); omega) (fp_lead1 hlo hu) (by omega), show ((23 : Int) - ((23 + D : Nat) : Int)).toNat = 0 by omega, show (((23 + D : Nat) : Int) - (23 : Int)).toNat = D by omega, Nat.pow_zero, Nat.mul_one, Nat.one_mul]
    have h24 : 2 ^ (23 + D + 1) = 16777216 * 2 ^ D := by rw [show 23 + D + 1 = 24 + D by omega, Nat.pow_add]
    have hb := fp_bd (A := x * 2 ^ D + y) (B := 2 ^ D) (lo := 8388608) (hi := 16777216) hD (by have : 8388608 * 2 ^ D ≤ x * 2 ^ D := Nat.mul_le_mul_right _ hx.1; omega) (by omega)
    generalize FP.Core.nearest (x * 2 ^ D + y) (2 ^ D) = N at hb ⊢
    rw [show ((23 + D : Nat) : Int) + m - 23 = (D : Int) + m by omega]
    by_cases hN : N = 16777216
    · subst hN
      exact ⟨8388608, (D : Int) + m + 1, st32b (by omega), ⟨by decide, by decide, by omega, by omega⟩, by omega, by omega⟩
    · exact ⟨N, (D : Int) + m, st32 (by omega) (by omega), ⟨hb.1, by omega, by omega, by omega⟩, by omega, by omega⟩
  · have e25 : 2 ^ (24 + D + 1) = 33554432 * 2 ^ D := by rw [show 24 + D + 1 = 25 + D by omega, Nat.pow_add]
    have e24 : 2 ^ (24 + D) = 16777216 * 2 ^ D := by rw [Nat.pow_add]
    have e24b : 2 ^ (23 + D + 1) = 2 ^ (24 + D) := by rw [show 23 + D + 1 = 24 + D by omega]
    rw [e24b] at hu
    have hu2 : x * 2 ^ D + y < 2 ^ (24 + D + 1) := by rw [e25]; omega
    rw [rq32 (k := ((24 + D : Nat) : Int)) (by omega) (fp_lead1 (by omega) hu2) (by omega), show ((23 : Int) - ((24 + D : Nat) : Int)).toNat = 0 by omega, show (((24 + D : Nat) : Int) - (23 : Int)).toNat = D + 1 by omega, Nat.pow_zero, Nat.mul_one, Nat.one_mul]
    have hp : 2 ^ (D + 1) = 2 * 2 ^ D := by rw [Nat.pow_succ, Nat.mul_comm]
    have hb := fp_bd (A := x * 2 ^ D + y) (B := 2 ^ (D + 1)) (lo := 8388608) (hi := 16777215) (Nat.two_pow_pos _) (by rw [hp]; omega) (by rw [hp]; omega)
    generalize FP.Core.nearest (x * 2 ^ D + y) (2 ^ (D + 1)) = N at hb ⊢
    rw [show ((24 + D : Nat) : Int) + m - 23 = (D : Int) + m + 1 by omega]
    exact ⟨N, (D : Int) + m + 1, st32 (by omega) (by omega), ⟨hb.1, by omega, by omega, by omega⟩, by omega, by omega⟩
theorem ad32 {a b : UInt32} {c d : Nat} {q r : Int} (h : is32 a false c q) (g : is32 b false d r) (h1 : q ≤ 50) (h2 : r ≤ 50) : ∃ c' q', is32 (FP.fadd a b) false c' q' ∧ max q r ≤ q' ∧ q' ≤ max q r + 1 := by
  obtain ⟨a1, a2, a3, a4⟩ := h.1
  obtain ⟨b1, b2, b3, b4⟩ := g.1
  have p1 := Nat.two_pow_pos (q - min q r).toNat
  have hne : c * 2 ^ (q - min q r).toNat + d * 2 ^ (r - min q r).toNat ≠ 0 := by
    have : 0 < c * 2 ^ (q - min q r).toNat := Nat.mul_pos (by omega) p1
    omega
  have e := sum32 h.de g.de hne
  by_cases hqr : r ≤ q
  · have e1 : c * 2 ^ (q - min q r).toNat + d * 2 ^ (r - min q r).toNat = c * 2 ^ (q - r).toNat + d := by
      rw [show min q r = r by omega, show (r - r).toNat = 0 by omega, Nat.pow_zero, Nat.mul_one]
    obtain ⟨c', q', z1, z2, z3, z4⟩ := ra32 (x := c) (y := d) (D := (q - r).toNat) (m := min q r) ⟨a1, a2⟩ b2 (by omega) (by omega)
    rw [e1, z1] at e
    exact ⟨c', q', ⟨z2, e⟩, by omega, by omega⟩
  · have e1 : c * 2 ^ (q - min q r).toNat + d * 2 ^ (r - min q r).toNat = d * 2 ^ (r - q).toNat + c := by
      rw [show min q r = q by omega, show (q - q).toNat = 0 by omega, Nat.pow_zero, Nat.mul_one, Nat.add_comm]
    obtain ⟨c', q', z1, z2, z3, z4⟩ := ra32 (x := d) (y := c) (D := (r - q).toNat) (m := min q r) ⟨b1, b2⟩ a2 (by omega) (by omega)
    rw [e1, z1] at e
    exact ⟨c', q', ⟨z2, e⟩, by omega, by omega⟩
theorem za32 {b : UInt32} {d : Nat} {r : Int} (g : is32 b false d r) : FP.fadd 0 b = b := by
  obtain ⟨b1, b2, b3, b4⟩ := g.1
  have hz : FP.Core.decode FP.Core.b32 (0 : UInt32).toNat = .fin false 0 (-149) := by decide +kernel
  have p1 := Nat.two_pow_pos (r - min (-149) r).toNat
  have e := sum32 hz g.de (by have : 0 < d * 2 ^ (r - min (-149) r).toNat := Nat.mul_pos (by omega) p1; omega)
  rw [Nat.zero_mul, Nat.zero_add, rm32 g.1 (by omega)] at e
  rw [e]
  exact g.2.symm
theorem az32 {b : UInt32} {d : Nat} {r : Int} (g : is32 b false d r) : FP.fadd b 0 = b := by
  obtain ⟨b1, b2, b3, b4⟩ := g.1
  have hz : FP.Core.decode FP.Core.b32 (0 : UInt32).toNat = .fin false 0 (-149) := by decide +kernel
  have p1 := Nat.two_pow_pos (r - min r (-149)).toNat
  have e := sum32 g.de hz (by have : 0 < d * 2 ^ (r - min r (-149)).toNat := Nat.mul_pos (by omega) p1; omega)
  rw [Nat.zero_mul, Nat.add_zero, rm32 g.1 (by omega)] at e
  rw [e]
  exact g.2.symm
theorem zz32 : FP.fadd 0 0 = 0 := by decide +kernel
theorem fd64 {a : UInt32} {c : Nat} {q : Int} (h : is32 a false c q) (h1 : -90 ≤ q) : is64 (FP.f2d a) false (c * 536870912) (q - 29) := by
  obtain ⟨a1, a2, a3, a4⟩ := h.1
  have hn : FP.Core.fIsNaN a = false := by
    show decide (FP.Core.decode FP.Core.b32 a.toNat = .nan) = false
    rw [h.de]
    rfl
  have e : FP.f2d a = UInt64.ofNat (FP.Core.encode FP.Core.b64 (FP.Core.roundRatio FP.Core.b64 false c 1 q)) := by
    show (if FP.Core.fIsNaN a = true then FP.nanF2D a else FP.Core.f2d a) = _
    rw [hn, if_neg (by decide)]
    show UInt64.ofNat (FP.Core.encode FP.Core.b64 (FP.Core.round FP.Core.b64 (FP.Core.decode FP.Core.b32 a.toNat))) = _
    rw [h.de]
    rfl
  obtain ⟨e1, e2⟩ := rw64 (s := false) (A := c) (L := 23) (e := q) a1 a2 (by decide) (by omega) (by omega)
  rw [e1] at e
  have e3 : ((23 : Nat) : Int) + q - 52 = q - 29 := by omega
  rw [e3] at e e2
  exact ⟨e2, e⟩
theorem two_is : is64 4611686018427387904 false 4503599627370496 (-51) := ⟨⟨by decide, by decide, by decide, by decide⟩, by decide +kernel⟩
theorem eq64 {m : UInt64} {s : Bool} {c : Nat} {q : Int} (h : is64 m s c q) : FP.dcmp m m = some .eq := by
  rw [cm64 h.de h.de, compare_ite', if_neg (by omega), if_pos rfl]
theorem eq32 {m : UInt32} {s : Bool} {c : Nat} {q : Int} (h : is32 m s c q) : FP.fcmp m m = some .eq := by
  show FP.Core.order (FP.Core.decode FP.Core.b32 m.toNat) (FP.Core.decode FP.Core.b32 m.toNat) = _
  rw [h.de]
  show some (compare (FP.Core.signed s (FP.Core.inUnits c q (min q q))) (FP.Core.signed s (FP.Core.inUnits c q (min q q)))) = _
  rw [compare_ite', if_neg (by omega), if_pos rfl]
theorem zq64 : FP.dcmp 0 0 = some .eq := by decide +kernel
theorem zq32 : FP.fcmp 0 0 = some .eq := by decide +kernel
theorem cm_z32 {m : UInt32} {c : Nat} {q : Int} (h : is32 m false c q) : FP.fcmp m FP.fconst0 = some .gt := by
  show FP.Core.order (FP.Core.decode FP.Core.b32 m.toNat) (FP.Core.decode FP.Core.b32 FP.fconst0.toNat) = _
  rw [h.de, de_z32]
  obtain ⟨h1, h2, h3, h4⟩ := h.1
  have := Nat.two_pow_pos (q - min q (-149)).toNat
  have e : 0 < c * 2 ^ (q - min q (-149)).toNat := Nat.mul_pos (by omega) this
  show some (compare (((c * 2 ^ (q - min q (-149)).toNat : Nat)) : Int) (((0 * 2 ^ (-149 - min q (-149)).toNat : Nat)) : Int)) = _
  rw [Nat.zero_mul, compare_ite', if_neg (by omega), if_neg (by omega)]
/-- what a clause brings, and all of them -/
theorem wor_b {f : Nat → Int32} {p a : Nat} (hp : p < 25600000) (h : cIv f a) : ∃ v : Nat, v ≤ 98901 ∧ wor f p a = nI v := by
  have ht := tr_lt (t := f (a * 11 + 5)) hp
  obtain ⟨x, -, hx, e6⟩ := wn_nI (a := 0) (b := 999) (by decide) (by decide) h.2.2.1
  unfold wor
  by_cases h0 : f (a * 11 + 4) = 0
  · rw [if_pos h0]; exact ⟨x, by omega, e6⟩
  rw [if_neg h0]
  by_cases h1 : f (a * 11 + 4) = 1
  · rw [if_pos h1]
    have h7 := h.2.2.2.1
    rw [if_pos h1] at h7
    obtain ⟨b, hb1, hb2, eb⟩ := wn_nI (a := 1) (b := 99) (by decide) (by decide) h7
    rw [eb, if_neg (show ¬ nI b < 1 from nI_nlt (b := 1) hb1 (by omega)), e6, pk_div (by omega) (by omega) (by omega), pk_mul]
    refine ⟨_, ?_, rfl⟩
    have : trN p (f (a * 11 + 5)) / b ≤ 99 := Nat.le_trans (Nat.div_le_self _ _) (by omega)
    calc trN p (f (a * 11 + 5)) / b * x ≤ 99 * 999 := Nat.mul_le_mul this hx
      _ = 98901 := by decide
  rw [if_neg h1]
  by_cases h2 : f (a * 11 + 4) = 2
  · rw [if_pos h2]
    have h7 := h.2.2.2.1
    rw [if_neg h1] at h7
    obtain ⟨b, -, hb2, eb⟩ := wn_nI (a := 0) (b := 99) (by decide) (by decide) h7
    rw [e6, eb, pk_mul]
    have hbv : b * trN p (f (a * 11 + 5)) ≤ 99 * 99 := Nat.mul_le_mul hb2 (by omega)
    have e := pk_sub_toInt (a := x) (b := b * trN p (f (a * 11 + 5))) (by omega) (by omega)
    by_cases hg : 0 < nI x - nI (b * trN p (f (a * 11 + 5)))
    · rw [if_pos hg]
      rw [Int32.lt_iff_toInt_lt, e] at hg
      have h9 : (0 : Int32).toInt = 0 := by decide
      exact ⟨x - b * trN p (f (a * 11 + 5)), by omega, pk_sub (by omega)⟩
    · rw [if_neg hg]; exact ⟨0, by omega, rfl⟩
  rw [if_neg h2]
  by_cases h4 : f (a * 11 + 4) = 4
  · rw [if_pos h4]
    by_cases hg : nI (trN p (f (a * 11 + 5))) < f (a * 11 + 6)
    · rw [if_pos hg]; exact ⟨_, by omega, rfl⟩
    · rw [if_neg hg]; exact ⟨x, by omega, e6⟩
  · rw [if_neg h4]; exact ⟨0, by omega, rfl⟩
theorem sumU_b {P : Nat → Bool} {w : Nat → Int32} {n B : Nat} (h : ∀ c, c < n → ∃ v : Nat, v ≤ B ∧ w c = nI v) : ∀ i, i ≤ n → ∃ v : Nat, v ≤ i * B ∧ sumU P w i = nI v
  | 0, _ => ⟨0, by omega, rfl⟩
  | i + 1, hi => by
    obtain ⟨v, hv, e⟩ := sumU_b h i (by omega)
    obtain ⟨u, hu, e2⟩ := h i (by omega)
    have hm : (i + 1) * B = i * B + B := Nat.succ_mul i B
    rw [sumU]
    split
    · rw [e, e2, nI_add]; exact ⟨v + u, by omega, rfl⟩
    · exact ⟨v, by omega, e⟩
theorem ocm_b {f : Nat → Int32} {n p : Nat} {d : Int32} (hn : n ≤ 12) (hp : p < 25600000) (h : cI f n) : ∃ v : Nat, v < 1186813 ∧ ocm f n p d = nI v := by
  obtain ⟨v, hv, e⟩ := sumU_b (P := cnb f (mskU (hbf f p d) n) (stD f (hbf f p d) n n).1) (B := 98901) (fun c hc => wor_b hp (h c hc)) n (Nat.le_refl n)
  have : n * 98901 ≤ 12 * 98901 := Nat.mul_le_mul_right _ hn
  exact ⟨v, by omega, e⟩
/-- the sum of what drawn ones get, each by their children and one -/
def msum (f : Nat → Int32) (n : Nat) (d z : Int32) : Nat → UInt32 × Int32
  | 0 => (0, z)
  | k + 1 => (FP.fadd (msum f n d z k).1 (FP.fdiv (FP.i2f (ocm f n (zp (msum f n d z k).2) d)) (FP.i2f (1 + nI (trN (zp (msum f n d z k).2) 2)))), zn5 (msum f n d z k).2)
theorem term_b {f : Nat → Int32} {n p : Nat} {d : Int32} (hn : n ≤ 12) (hp : p < 25600000) (h : cI f n) : FP.fdiv (FP.i2f (ocm f n p d)) (FP.i2f (1 + nI (trN p 2))) = 0 ∨ ∃ c q, is32 (FP.fdiv (FP.i2f (ocm f n p d)) (FP.i2f (1 + nI (trN p 2)))) false c q ∧ -44 ≤ q ∧ q ≤ -2 := by
  obtain ⟨v, hv, e⟩ := ocm_b (d := d) hn hp h
  have ht : trN p 2 < 10 := by show p / 10000 % 10 < 10; omega
  have e2 : 1 + nI (trN p 2) = nI (1 + trN p 2) := nI_add 1 _
  obtain ⟨c2, q2, g1, g2, g3⟩ := i2f_is (n := 1 + trN p 2) (by omega) (by omega)
  rw [e, e2]
  by_cases h0 : v = 0
  · left
    subst h0
    rw [show FP.i2f (nI 0) = 0 from i2f0]
    exact zd_32 g1
  · right
    obtain ⟨c1, q1, k1, k2, k3⟩ := i2f_is (n := v) h0 (by omega)
    obtain ⟨c', q', m1, m2, m3⟩ := dv32 k1 g1 (by omega) (by omega)
    exact ⟨c', q', m1, by omega, by omega⟩
theorem term_n {f : Nat → Int32} {n p : Nat} {d : Int32} (hn : n ≤ 12) (hp : p < 25600000) (h : cI f n) : vf_n32 (FP.fdiv (FP.i2f (ocm f n p d)) (FP.i2f (1 + nI (trN p 2)))) := by
  rcases term_b (d := d) hn hp h with e | ⟨c, q, h1, -⟩
  · rw [e]; exact nan0_32
  · exact h1.nan
theorem msum_b {f : Nat → Int32} {n : Nat} {d z : Int32} (hn : n ≤ 12) (h : cI f n) : ∀ k : Nat, k ≤ 20 → (msum f n d z k).1 = 0 ∨ ∃ c q, is32 (msum f n d z k).1 false c q ∧ -44 ≤ q ∧ q ≤ -3 + (k : Int) ∧ 1 ≤ k
  | 0, _ => Or.inl rfl
  | k + 1, hk => by
    show FP.fadd (msum f n d z k).1 _ = 0 ∨ ∃ c q, is32 (FP.fadd (msum f n d z k).1 _) false c q ∧ _
    have ht := term_b (d := d) hn (zp_lt (msum f n d z k).2) h
    generalize FP.fdiv (FP.i2f (ocm f n (zp (msum f n d z k).2) d)) (FP.i2f (1 + nI (trN (zp (msum f n d z k).2) 2))) = t at ht
    rcases msum_b (d := d) (z := z) hn h k (by omega) with e | ⟨c, q, a1, a2, a3, a4⟩
    · rw [e]
      rcases ht with e2 | ⟨c2, q2, b1, b2, b3⟩
      · rw [e2]; exact Or.inl zz32
      · rw [za32 b1]; exact Or.inr ⟨c2, q2, b1, b2, by omega, by omega⟩
    · rcases ht with e2 | ⟨c2, q2, b1, b2, b3⟩
      · rw [e2, az32 a1]; exact Or.inr ⟨c, q, a1, a2, by omega, by omega⟩
      · obtain ⟨c', q', z1, z2, z3⟩ := ad32 a1 b1 (by omega) (by omega)
        exact Or.inr ⟨c', q', z1, by omega, by omega, by omega⟩
theorem msum_n {f : Nat → Int32} {n k : Nat} {d z : Int32} (hn : n ≤ 12) (h : cI f n) (hk : k ≤ 20) : vf_n32 (msum f n d z k).1 := by
  rcases msum_b (d := d) (z := z) hn h k hk with e | ⟨c, q, h1, -⟩
  · rw [e]; exact nan0_32
  · exact h1.nan
theorem quo_b {x : Int32} {w : Nat} (h1 : 1 ≤ w) (h2 : w ≤ 9) : FP.ddiv (FP.i2d x) (FP.i2d (nI w)) = 0 ∨ ∃ s c q, is64 (FP.ddiv (FP.i2d x) (FP.i2d (nI w))) s c q ∧ -92 ≤ q ∧ q ≤ -12 := by
  obtain ⟨c2, q2, g1, g2, g3⟩ := i2d_is (x := nI w) (nI_ne0 (by omega) (by omega))
  rw [decide_eq_false (by rw [nI_toInt (by omega)]; omega)] at g1
  by_cases h0 : x = 0
  · left; subst h0; rw [i2d0]; exact zd_64 g1
  · right
    obtain ⟨c1, q1, k1, k2, k3⟩ := i2d_is h0
    obtain ⟨c', q', m1, m2, m3⟩ := dv64 k1 g1 (by omega) (by omega)
    exact ⟨_, c', q', m1, by omega, by omega⟩
theorem half_b {x : Int32} : FP.ddiv (FP.i2d x) 4611686018427387904 = 0 ∨ ∃ s c q, is64 (FP.ddiv (FP.i2d x) 4611686018427387904) s c q ∧ -92 ≤ q ∧ q ≤ -12 := by
  by_cases h0 : x = 0
  · left; subst h0; rw [i2d0]; exact zd_64 two_is
  · right
    obtain ⟨c1, q1, k1, k2, k3⟩ := i2d_is h0
    obtain ⟨c', q', m1, m2, m3⟩ := dv64 k1 two_is (by omega) (by omega)
    exact ⟨_, c', q', m1, by omega, by omega⟩
theorem nan_of {m : UInt64} (h : m = 0 ∨ ∃ s c q, is64 m s c q ∧ -92 ≤ q ∧ q ≤ -12) : vf_n64 m := by
  rcases h with rfl | ⟨s, c, q, h1, -⟩
  · exact nan0_64
  · exact h1.nan
theorem eq_of {m : UInt64} (h : m = 0 ∨ ∃ s c q, is64 m s c q ∧ -92 ≤ q ∧ q ≤ -12) : FP.dcmp m m = some .eq := by
  rcases h with rfl | ⟨s, c, q, h1, -⟩
  · exact zq64
  · exact eq64 h1
/-- a float's bits among its double's -/
theorem ofb {a : UInt32} {c : Nat} {q : Int} (h : is32 a false c q) (h1 : -63 ≤ q) (h2 : q ≤ 17) : ((((FP.f2d a).toInt64.toUInt64 >>> ((52 : Int32).toInt64.toUInt64 &&& Int64.toUInt64 63)).toInt64 - 1023 + 127) <<< ((23 : Int32).toInt64 &&& 63) ||| ((FP.f2d a).toInt64.toUInt64 >>> ((29 : Int32).toInt64.toUInt64 &&& Int64.toUInt64 63)).toInt64 &&& 8388607).toInt32 = a.toInt32 := by
  have hd := (fd64 h (by omega)).nat
  obtain ⟨a1, a2, a3, a4⟩ := h.1
  obtain ⟨e, he⟩ : ∃ e, (q - 29 + 1075).toNat = e := ⟨_, rfl⟩
  rw [he, Bool.toNat_false] at hd
  have hd2 : (FP.f2d a).toNat = e * 4503599627370496 + (c - 8388608) * 536870912 := by rw [hd]; omega
  have ea : a.toNat = (q + 150).toNat * 8388608 + (c - 8388608) := by rw [h.nat, Bool.toNat_false]; omega
  have heq : (q + 150).toNat = e - 896 := by omega
  have s1 : ((FP.f2d a).toInt64.toUInt64 >>> ((52 : Int32).toInt64.toUInt64 &&& Int64.toUInt64 63)).toInt64 = lI e := by
    apply Int64.toBitVec_inj.mp
    apply BitVec.eq_of_toNat_eq
    show ((FP.f2d a) >>> (52 : UInt64)).toNat = (BitVec.ofNat 64 e).toNat
    rw [UInt64.toNat_shiftRight, show (52 : UInt64).toNat % 64 = 52 by decide, Nat.shiftRight_eq_div_pow, hd2, BitVec.toNat_ofNat]
    omega
  have s2 : ((FP.f2d a).toInt64.toUInt64 >>> ((29 : Int32).toInt64.toUInt64 &&& Int64.toUInt64 63)).toInt64 &&& 8388607 = lI (c - 8388608) := by
    apply Int64.toBitVec_inj.mp
    apply BitVec.eq_of_toNat_eq
    rw [Int64.toBitVec_and, BitVec.toNat_and]
    show ((FP.f2d a) >>> (29 : UInt64)).toNat &&& (2 ^ 23 - 1) = (BitVec.ofNat 64 (c - 8388608)).toNat
    rw [Nat.and_two_pow_sub_one_eq_mod, UInt64.toNat_shiftRight, show (29 : UInt64).toNat % 64 = 29 by decide, Nat.shiftRight_eq_div_pow, hd2, BitVec.toNat_ofNat]
    omega
  rw [s1, s2]
  have s3 : lI e - 1023 + 127 = lI (e - 896) := by
    have e0 : lI e = lI (e - 896) + 896 := by
      show _ = lI (e - 896) + lI 896
      rw [lI_add, show e - 896 + 896 = e by omega]
    rw [e0, Int64.sub_eq_add_neg, Int64.add_assoc, Int64.add_assoc, show (896 : Int64) + (-1023 + 127) = 0 by decide, Int64.add_zero]
  rw [s3]
  apply Int32.toBitVec_inj.mp
  apply BitVec.eq_of_toNat_eq
  have s4 : (lI (e - 896) <<< ((23 : Int32).toInt64 &&& 63)).toBitVec = BitVec.ofNat 64 (e - 896) <<< 23 := rfl
  have s5 : (lI (e - 896) <<< ((23 : Int32).toInt64 &&& 63) ||| lI (c - 8388608)).toBitVec.toNat = (e - 896) * 8388608 + (c - 8388608) := by
    rw [Int64.toBitVec_or, BitVec.toNat_or, s4, BitVec.toNat_shiftLeft, BitVec.toNat_ofNat, Nat.mod_eq_of_lt (show e - 896 < 2 ^ 64 by omega), Nat.shiftLeft_eq, Nat.mod_eq_of_lt (show (e - 896) * 2 ^ 23 < 2 ^ 64 by omega), lI_bv, BitVec.toNat_ofNat, Nat.mod_eq_of_lt (show c - 8388608 < 2 ^ 64 by omega), Nat.mul_comm (e - 896), ← Nat.two_pow_add_eq_or_of_lt (show c - 8388608 < 2 ^ 23 by omega), Nat.mul_comm]
  rw [Int64.toBitVec_toInt32, BitVec.signExtend_eq_setWidth_of_le _ (by decide), BitVec.toNat_setWidth, s5]
  show _ = a.toNat
  rw [ea, heq]
  omega
section BW5
variable {p : Program} {l : Launch} {e : Env} {R : Room} {s : State} {m : MethodId} {args : Array Value} {below : List Frame} {meth : Method} {cd : Code} {H : Heap} {locs : List Loc} {cells slots : Nat} {Q : State → Prop}
variable {cc : ByteArray} {pc : Nat} {ls : Array Slot} {rest : List Value}
theorem tpv {x y : Value} (h : x = y) (k : W p l e R s m args below meth cd H locs cells slots Q (F0 m pc ls (y :: rest))) : W p l e R s m args below meth cd H locs cells slots Q (F0 m pc ls (x :: rest)) := by rw [h]; exact k
end BW5

