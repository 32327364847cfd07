/-! BOTH SIDES AGREE: the days, the clauses' numbers, the rows -/
theorem ocm_congr {f : Nat → Int32} {n p : Nat} {d e : Int32} (h : ∀ c, c < n → spn f d c = spn f e c) : ocm f n p d = ocm f n p e := by
  have hb : ∀ c, c < n → hbf f p d c = hbf f p e c := fun c hc => by unfold hbf; rw [h c hc]
  unfold ocm
  rw [mskU_congr hb n (Nat.le_refl n), stD_congr hb n (Nat.le_refl n)]
def eA (f : Nat → Int32) (c : Nat) : Nat := (f (c * 11 + 8)).toNatClampNeg
def eB (f : Nat → Int32) (c : Nat) : Nat := (f (c * 11 + 9)).toNatClampNeg + 1
theorem eA_s {f : Nat → Int32} {c : Nat} (h : cIv f c) : f (c * 11 + 8) = nI (eA f c) ∧ eA f c ≤ 999 := by
  obtain ⟨q, -, h2, e⟩ := wn_nI (a := 0) (b := 999) (by decide) (by decide) h.2.2.2.2.1
  unfold eA
  rw [e, nI_clamp (by omega)]
  exact ⟨rfl, h2⟩
theorem eB_s {f : Nat → Int32} {c : Nat} (h : cIv f c) : f (c * 11 + 9) + 1 = nI (eB f c) ∧ eB f c ≤ 1000 ∧ 1 ≤ eB f c ∧ f (c * 11 + 9) = nI (eB f c - 1) := by
  obtain ⟨q, -, h2, e⟩ := wn_nI (a := 0) (b := 999) (by decide) (by decide) h.2.2.2.2.2.1
  unfold eB
  rw [e, nI_clamp (by omega)]
  exact ⟨nI_1 q, by omega, by omega, by rw [Nat.add_sub_cancel]⟩
theorem spn_s {f : Nat → Int32} {c d : Nat} (h : cIv f c) (hd : d ≤ 999) : spn f (nI d) c = decide (eA f c ≤ d ∧ d < eB f c) := by
  obtain ⟨a1, a2⟩ := eA_s h
  obtain ⟨b1, b2, b3, b4⟩ := eB_s h
  unfold spn wn
  rw [a1, b4]
  have x1 : (nI d < nI (eA f c)) ↔ d < eA f c := nI_ltI (by omega) (by omega)
  have x2 : (nI (eB f c - 1) < nI d) ↔ eB f c - 1 < d := nI_ltI (by omega) (by omega)
  by_cases y1 : d < eA f c
  · have : ¬ (eA f c ≤ d ∧ d < eB f c) := by omega
    simp [x1.mpr y1, this]
  · by_cases y2 : eB f c - 1 < d
    · have : ¬ (eA f c ≤ d ∧ d < eB f c) := by omega
      simp [x2.mpr y2, this]
    · have h3 : eA f c ≤ d ∧ d < eB f c := by omega
      have n1 : ¬ nI d < nI (eA f c) := fun q => y1 (x1.mp q)
      have n2 : ¬ nI (eB f c - 1) < nI d := fun q => y2 (x2.mp q)
      simp [n1, n2, h3]
theorem minI_n {a b : Nat} (ha : a < 2 ^ 31) (hb : b < 2 ^ 31) : minI (nI a) (nI b) = nI (min a b) := by
  unfold minI
  by_cases h : b < a
  · rw [if_pos ((nI_ltI hb ha).mpr h), Nat.min_eq_right (by omega)]
  · rw [if_neg (fun q => h ((nI_ltI hb ha).mp q)), Nat.min_eq_left (by omega)]
/-- the next edge behind a day -/
theorem nxe_s {f : Nat → Int32} {n d : Nat} (hI : cI f n) (hd : d ≤ 999) : ∀ i, i ≤ n → ∃ e : Nat, nxe f (nI d) i = nI e ∧ d < e ∧ e ≤ 1000 ∧ (∀ c, c < i → (d < eA f c → e ≤ eA f c) ∧ (d < eB f c → e ≤ eB f c)) ∧ (e = 1000 ∨ ∃ c, c < i ∧ (e = eA f c ∨ e = eB f c))
  | 0, _ => ⟨1000, rfl, by omega, by omega, fun c hc => absurd hc (Nat.not_lt_zero _), Or.inl rfl⟩
  | i + 1, hi => by
    obtain ⟨e, h1, h2, h3, h4, h5⟩ := nxe_s hI hd i (by omega)
    obtain ⟨a1, a2⟩ := eA_s (hI i (by omega))
    obtain ⟨b1, b2, b3, -⟩ := eB_s (hI i (by omega))
    rw [nxe, h1]
    rw [a1, b1]
    have x1 : (nI d < nI (eA f i)) ↔ d < eA f i := nI_ltI (by omega) (by omega)
    have x2 : (nI d < nI (eB f i)) ↔ d < eB f i := nI_ltI (by omega) (by omega)
    obtain ⟨e1, g1, g2, g3, g4⟩ : ∃ e1 : Nat, (if nI d < nI (eA f i) then minI (nI e) (nI (eA f i)) else nI e) = nI e1 ∧ e1 ≤ e ∧ (d < eA f i → e1 ≤ eA f i) ∧ (e1 = e ∨ (e1 = eA f i ∧ d < eA f i)) := by
      by_cases y : d < eA f i
      · rw [if_pos (x1.mpr y), minI_n (by omega) (by omega)]
        exact ⟨_, rfl, by omega, by omega, by omega⟩
      · rw [if_neg (fun q => y (x1.mp q))]
        exact ⟨e, rfl, by omega, by omega, by omega⟩
    rw [g1]
    obtain ⟨e2, k1, k2, k3, k4⟩ : ∃ e2 : Nat, (if nI d < nI (eB f i) then minI (nI e1) (nI (eB f i)) else nI e1) = nI e2 ∧ e2 ≤ e1 ∧ (d < eB f i → e2 ≤ eB f i) ∧ (e2 = e1 ∨ (e2 = eB f i ∧ d < eB f i)) := by
      by_cases y : d < eB f i
      · rw [if_pos (x2.mpr y), minI_n (by omega) (by omega)]
        exact ⟨_, rfl, by omega, by omega, by omega⟩
      · rw [if_neg (fun q => y (x2.mp q))]
        exact ⟨e1, rfl, by omega, by omega, by omega⟩
    rw [k1]
    refine ⟨e2, rfl, by omega, by omega, fun c hc => ?_, ?_⟩
    · by_cases ec : c = i
      · subst ec; exact ⟨fun q => by have := g3 q; omega, k3⟩
      · have := h4 c (by omega)
        exact ⟨fun q => by have := this.1 q; omega, fun q => by have := this.2 q; omega⟩
    · rcases k4 with k4 | k4
      · rcases g4 with g4 | g4
        · rcases h5 with h5 | ⟨c, hc, h5⟩
          · left; omega
          · right; exact ⟨c, by omega, by omega⟩
        · right; exact ⟨i, by omega, Or.inl (by omega)⟩
      · right; exact ⟨i, by omega, Or.inr k4.1⟩
/-- how many edges lie ahead -/
def cE (f : Nat → Int32) (d : Nat) : Nat → Nat
  | 0 => 0
  | i + 1 => cE f d i + (if d < eA f i ∧ eA f i ≤ 999 then 1 else 0) + (if d < eB f i ∧ eB f i ≤ 999 then 1 else 0)
theorem cE_le (f : Nat → Int32) (d : Nat) : ∀ n, cE f d n ≤ 2 * n
  | 0 => Nat.le_refl _
  | n + 1 => by have := cE_le f d n; rw [cE]; split <;> split <;> omega
theorem cE_mono {f : Nat → Int32} {d e : Nat} (h : d ≤ e) : ∀ n, cE f e n ≤ cE f d n
  | 0 => Nat.le_refl _
  | n + 1 => by
    have ih := cE_mono (f := f) h n
    rw [cE, cE]
    have a : (if e < eA f n ∧ eA f n ≤ 999 then 1 else 0) ≤ (if d < eA f n ∧ eA f n ≤ 999 then 1 else 0) := by
      by_cases q : e < eA f n ∧ eA f n ≤ 999
      · rw [if_pos q, if_pos (by omega)]; exact Nat.le_refl _
      · rw [if_neg q]; exact Nat.zero_le _
    have b : (if e < eB f n ∧ eB f n ≤ 999 then 1 else 0) ≤ (if d < eB f n ∧ eB f n ≤ 999 then 1 else 0) := by
      by_cases q : e < eB f n ∧ eB f n ≤ 999
      · rw [if_pos q, if_pos (by omega)]; exact Nat.le_refl _
      · rw [if_neg q]; exact Nat.zero_le _
    omega
theorem cE_lt {f : Nat → Int32} {d e : Nat} (h : d < e) (he : e ≤ 999) : ∀ n, (∃ c, c < n ∧ (e = eA f c ∨ e = eB f c)) → cE f e n < cE f d n
  | 0, ⟨c, hc, _⟩ => absurd hc (Nat.not_lt_zero _)
  | n + 1, ⟨c, hc, hq⟩ => by
    rw [cE, cE]
    have m := cE_mono (f := f) (Nat.le_of_lt h) n
    have a : (if e < eA f n ∧ eA f n ≤ 999 then 1 else 0) ≤ (if d < eA f n ∧ eA f n ≤ 999 then 1 else 0) := by
      by_cases q : e < eA f n ∧ eA f n ≤ 999
      · rw [if_pos q, if_pos (by omega)]; exact Nat.le_refl _
      · rw [if_neg q]; exact Nat.zero_le _
    have b : (if e < eB f n ∧ eB f n ≤ 999 then 1 else 0) ≤ (if d < eB f n ∧ eB f n ≤ 999 then 1 else 0) := by
      by_cases q : e < eB f n ∧ eB f n ≤ 999
      · rw [if_pos q, if_pos (by omega)]; exact Nat.le_refl _
      · rw [if_neg q]; exact Nat.zero_le _
    by_cases ec : c = n
    · subst ec
      rcases hq with hq | hq
      · rw [if_neg (show ¬ (e < eA f c ∧ eA f c ≤ 999) by omega)]
        rw [if_pos (show d < eA f c ∧ eA f c ≤ 999 by omega)]
        omega
      · rw [if_neg (show ¬ (e < eB f c ∧ eB f c ≤ 999) by omega)]
        rw [if_pos (show d < eB f c ∧ eB f c ≤ 999 by omega)]
        omega
    · have := cE_lt (f := f) h he n ⟨c, by omega, hq⟩
      omega
theorem untM_skip {f : Nat → Int32} {n p : Nat} {tot : Int32} : ∀ (j k d : Nat), (∀ x, d ≤ x → x < d + j → ocm f n p (nI x) = tot) → untM f n p tot (j + k) d = untM f n p tot k (d + j)
  | 0, k, d, _ => by rw [Nat.zero_add]; rfl
  | j + 1, k, d, h => by
    rw [show j + 1 + k = (j + k) + 1 by omega, untM, if_pos (h d (Nat.le_refl d) (by omega)), untM_skip j k (d + 1) (fun x h1 h2 => h x (by omega) (by omega)), show d + 1 + j = d + (j + 1) by omega]
theorem unt_eq {f : Nat → Int32} {n p : Nat} {tot : Int32} (hI : cI f n) : ∀ (k d : Nat), d ≤ 999 → cE f d n ≤ k → ocm f n p (nI d) = tot → untE f n p tot k (nxe f (nI d) n) = untM f n p tot (999 - d) (d + 1) := by
  intro k
  induction k with
  | zero =>
    intro d hd hc ho
    obtain ⟨e, h1, h2, h3, h4, h5⟩ := nxe_s hI hd n (Nat.le_refl n)
    have he : e = 1000 := by
      rcases h5 with h5 | h5
      · exact h5
      · by_cases q : e ≤ 999
        · have := cE_lt (f := f) h2 q n h5
          omega
        · omega
    have hs : ∀ x, d + 1 ≤ x → x < d + 1 + (999 - d) → ocm f n p (nI x) = tot := fun x g1 g2 => by
      rw [← ho]
      exact ocm_congr (fun c hc => by
        rw [spn_s (hI c hc) (by omega), spn_s (hI c hc) hd]
        have := h4 c hc
        rw [decide_eq_decide]
        constructor <;> intro q <;> (constructor <;> (rcases Nat.lt_or_ge d (eA f c) with y | y <;> rcases Nat.lt_or_ge d (eB f c) with z | z <;> (first | (have := this.1 y; have := this.2 z; omega) | (have := this.1 y; omega) | (have := this.2 z; omega) | omega))))
    have := untM_skip (f := f) (n := n) (p := p) (tot := tot) (999 - d) 0 (d + 1) hs
    rw [Nat.add_zero] at this
    rw [this]
    rfl
  | succ k ih =>
    intro d hd hc ho
    obtain ⟨e, h1, h2, h3, h4, h5⟩ := nxe_s hI hd n (Nat.le_refl n)
    have hs : ∀ x, d + 1 ≤ x → x < d + 1 + (e - (d + 1)) → ocm f n p (nI x) = tot := fun x g1 g2 => by
      rw [← ho]
      exact ocm_congr (fun c hc => by
        rw [spn_s (hI c hc) (by omega), spn_s (hI c hc) hd]
        have := h4 c hc
        rw [decide_eq_decide]
        constructor <;> intro q <;> (constructor <;> (rcases Nat.lt_or_ge d (eA f c) with y | y <;> rcases Nat.lt_or_ge d (eB f c) with z | z <;> (first | (have := this.1 y; have := this.2 z; omega) | (have := this.1 y; omega) | (have := this.2 z; omega) | omega))))
    have sk := untM_skip (f := f) (n := n) (p := p) (tot := tot) (e - (d + 1)) (1000 - e) (d + 1) hs
    rw [show e - (d + 1) + (1000 - e) = 999 - d by omega, show d + 1 + (e - (d + 1)) = e by omega] at sk
    rw [sk, h1, untE]
    by_cases q : e ≤ 999
    · rw [if_neg (show ¬ ((999 : Int32) < nI e) from fun z => absurd ((nI_ltI (a := 999) (b := e) (by omega) (by omega)).mp z) (by omega)), show 1000 - e = (999 - e) + 1 by omega, untM]
      by_cases z : ocm f n p (nI e) = tot
      · rw [if_pos z, if_pos z]
        have h6 : ∃ c, c < n ∧ (e = eA f c ∨ e = eB f c) := by
          rcases h5 with h5 | h5
          · omega
          · exact h5
        have := cE_lt (f := f) h2 q n h6
        exact ih e q (by omega) z
      · rw [if_neg z, if_neg z]
    · rw [show e = 1000 by omega]
      rfl
theorem unt_ok {f : Nat → Int32} {n p : Nat} {d : Int32} (hI : cI f n) (hn : n ≤ 12) (hd : isDy d = true) : untE f n p (ocm f n p d) 24 (nxe f d n) = untM f n p (ocm f n p d) (999 - d.toNatClampNeg) (d.toNatClampNeg + 1) := by
  obtain ⟨q, -, h2, e⟩ := wn_nI (a := 0) (b := 999) (by decide) (by decide) hd
  subst e
  rw [nI_clamp (by omega)]
  exact unt_eq hI 24 q h2 (by have := cE_le f q n; omega) rfl
/-! the clauses' numbers stay what they may be -/
theorem cIv_c {f g : Nat → Int32} {c : Nat} (h : ∀ k, k < 11 → g (c * 11 + k) = f (c * 11 + k)) (hf : cIv f c) : cIv g c := by
  unfold cIv at *
  have h0 : g (c * 11) = f (c * 11) := h 0 (by decide)
  rw [h0, h 4 (by decide), h 6 (by decide), h 7 (by decide), h 8 (by decide), h 9 (by decide), h 10 (by decide)]
  exact hf
theorem cI_lt {f g : Nat → Int32} {n : Nat} (h : ∀ j, j < n * 11 → g j = f j) (hf : cI f n) : cI g n := fun c hc => cIv_c (fun k hk => h _ (by omega)) (hf c hc)
theorem cI_m {f : Nat → Int32} {n m : Nat} (hm : m ≤ n) (hf : cI f n) : cI f m := fun c hc => hf c (by omega)
theorem cI_0 {f : Nat → Int32} : cI f 0 := fun c hc => absurd hc (Nat.not_lt_zero _)
/-- one clause changed -/
theorem cI_u {f g : Nat → Int32} {n a : Nat} (h : ∀ j, (j < a * 11 ∨ a * 11 + 11 ≤ j) → g j = f j) (hf : cI f n) (ha : cIv g a) : cI g n := fun c hc => by
  by_cases e : c = a
  · rw [e]; exact ha
  · exact cIv_c (fun k hk => h _ (by omega)) (hf c hc)
theorem wn_up {x : Int32} (h : wn x 0 0 = true) : wn x 0 99 = true := by
  rw [wn00, decide_eq_true_eq] at h
  subst h
  decide
theorem m1_q {n : Nat} (hn : n ≤ 12) : wn (-1) (-1) (nI n - 1) = true := by
  have : ∀ n : Nat, n < 13 → wn (-1) (-1) (nI n - 1) = true := by decide +kernel
  exact this n (by omega)
theorem apF_v (f : Nat → Int32) {n : Nat} (hn : n ≤ 12) : cIv (apF f n) n := by
  have z : ∀ k, k < 9 → apF f n (n * 11 + k) = 0 := fun k hk => by
    unfold apF
    rw [pk_un (by omega), pk_un (by omega), zrF, if_pos (by omega)]
  have z0 : apF f n (n * 11) = 0 := z 0 (by decide)
  have z9 : apF f n (n * 11 + 9) = 999 := by unfold apF; rw [pk_un (by omega), pk_us]
  have z10 : apF f n (n * 11 + 10) = -1 := by unfold apF; rw [pk_us]
  unfold cIv
  rw [z0, z 4 (by decide), z 6 (by decide), z 7 (by decide), z 8 (by decide), z9, z10]
  refine ⟨by decide, by decide, by decide, by decide, by decide, by decide, ?_⟩
  exact m1_q hn
theorem apF_o (f : Nat → Int32) (n j : Nat) (h : j < n * 11 ∨ n * 11 + 11 ≤ j) : apF f n j = f j := by
  unfold apF
  rw [pk_un (by omega), pk_un (by omega), zrF, if_neg (by omega)]
theorem cI_ap {f : Nat → Int32} {n : Nat} (hn : n ≤ 12) (h : cI f n) : cI (apF f n) (n + 1) := fun c hc => by
  by_cases e : c = n
  · rw [e]; exact apF_v f hn
  · exact cIv_c (fun k hk => apF_o f n _ (by omega)) (h c (by omega))
theorem u4_o {f : Nat → Int32} {k j : Nat} {a b d e : Int32} (h : j < k ∨ k + 4 ≤ j) : u4 f k a b d e j = f j := by
  unfold u4
  rw [pk_un (by omega), pk_un (by omega), pk_un (by omega), pk_un (by omega)]
theorem u4_0 {f : Nat → Int32} {k : Nat} {a b d e : Int32} : u4 f k a b d e k = a := by
  unfold u4
  rw [pk_un (by omega), pk_un (by omega), pk_un (by omega), pk_us]
theorem u4_2 {f : Nat → Int32} {k : Nat} {a b d e : Int32} : u4 f k a b d e (k + 2) = d := by
  unfold u4
  rw [pk_un (by omega), pk_us]
theorem u4_3 {f : Nat → Int32} {k : Nat} {a b d e : Int32} : u4 f k a b d e (k + 3) = e := by
  unfold u4
  rw [pk_us]
theorem cI_test {f : Nat → Int32} {n a : Nat} {x h t lo hi : Int32} (hI : cI f n) (ha : a < n) (ho : tOK n x h t lo hi = true) : cI (u4 f (a * 11) h t lo hi) n := by
  refine cI_u (a := a) (fun j hj => u4_o (by omega)) hI ?_
  have hv := hI a ha
  unfold tOK at ho
  simp only [Bool.and_eq_true] at ho
  unfold cIv at *
  rw [u4_0, u4_o (by omega), u4_o (by omega), u4_o (by omega), u4_o (by omega), u4_o (by omega), u4_o (by omega)]
  exact ⟨ho.1.1.1.2, hv.2⟩
theorem cI_grant {f : Nat → Int32} {n a : Nat} {x s t p q : Int32} (hI : cI f n) (ha : a < n) (ho : gOK n x s t p q = true) : cI (u4 f (a * 11 + 4) s t p q) n := by
  refine cI_u (a := a) (fun j hj => u4_o (by omega)) hI ?_
  have hv := hI a ha
  unfold gOK at ho
  simp only [Bool.and_eq_true] at ho
  unfold cIv at *
  have e6 : u4 f (a * 11 + 4) s t p q (a * 11 + 6) = p := u4_2 (k := a * 11 + 4)
  have e7 : u4 f (a * 11 + 4) s t p q (a * 11 + 7) = q := u4_3 (k := a * 11 + 4)
  rw [u4_o (by omega), u4_0, e6, e7, u4_o (by omega), u4_o (by omega), u4_o (by omega)]
  refine ⟨hv.1, ho.1.1.1.2, ho.1.2, ?_, hv.2.2.2.2⟩
  have h5 := ho.2
  by_cases h1 : s = 1
  · rw [if_pos h1, if_pos h1] at h5; rw [if_pos h1]; exact h5
  · rw [if_neg h1] at h5 ⊢
    rw [if_neg h1] at h5
    by_cases h2 : s = 2
    · rw [if_pos h2] at h5; exact h5
    · rw [if_neg h2] at h5; exact wn_up h5
theorem cI_span {f : Nat → Int32} {n a : Nat} {x p q : Int32} (hI : cI f n) (ha : a < n) (ho : sOK n x p q = true) : cI (u2 f (a * 11 + 8) p q) n := by
  have o : ∀ j, (j < a * 11 + 8 ∨ a * 11 + 10 ≤ j) → u2 f (a * 11 + 8) p q j = f j := fun j hj => by unfold u2; rw [pk_un (by omega), pk_un (by omega)]
  refine cI_u (a := a) (fun j hj => o j (by omega)) hI ?_
  have hv := hI a ha
  unfold sOK at ho
  simp only [Bool.and_eq_true] at ho
  have e8 : u2 f (a * 11 + 8) p q (a * 11 + 8) = p := by unfold u2; rw [pk_un (by omega), pk_us]
  have e9 : u2 f (a * 11 + 8) p q (a * 11 + 9) = q := by unfold u2; rw [pk_us]
  unfold cIv at *
  rw [o _ (by omega), o _ (by omega), o _ (by omega), o _ (by omega), e8, e9, o _ (by omega)]
  exact ⟨hv.1, hv.2.1, hv.2.2.1, hv.2.2.2.1, ho.1.1.2, ho.1.2, hv.2.2.2.2.2.2⟩
theorem cI_exc {f : Nat → Int32} {n a : Nat} {d : Int32} (hI : cI f n) (ha : a < n) (ho : eOK n (nI a) d = true) : cI (upd f (a * 11 + 10) d) n := by
  have o : ∀ j, j ≠ a * 11 + 10 → upd f (a * 11 + 10) d j = f j := fun j hj => pk_un hj
  refine cI_u (a := a) (fun j hj => o j (by omega)) hI ?_
  have hv := hI a ha
  unfold eOK at ho
  simp only [Bool.and_eq_true] at ho
  unfold cIv at *
  rw [o _ (by omega), o _ (by omega), o _ (by omega), o _ (by omega), o _ (by omega), o _ (by omega), pk_us]
  exact ⟨hv.1, hv.2.1, hv.2.2.1, hv.2.2.2.1, hv.2.2.2.2.1, hv.2.2.2.2.2.1, ho.2⟩
