/-! PURE: bounds, and the reference's ways to the same numbers -/
theorem and1 (x : Int32) : x &&& 1 = 0 ∨ x &&& 1 = 1 := by
  have h1 : ∀ j, j < 32 → bt 1 j = decide (j = 0) := by decide +kernel
  by_cases hb : bt x 0 = true
  · right
    refine b_ext fun i hi => ?_
    rw [b_and, h1 i hi]
    by_cases h : i = 0
    · subst h; simp [hb]
    · simp [h]
  · left
    refine b_ext fun i hi => ?_
    rw [b_and, h1 i hi, b_0]
    by_cases h : i = 0
    · subst h; simp [hb]
    · simp [h]
theorem isn_0 (h x : Int32) : isn h x = false ↔ (h >>> (x &&& 31)) &&& 1 = 0 := by
  unfold isn
  rcases and1 (h >>> (x &&& 31)) with e | e <;> rw [e] <;> decide
theorem sub0 {a b : Int32} : a - b = 0 ↔ a = b := by
  constructor
  · intro h
    have : a - b + b = 0 + b := by rw [h]
    rw [Int32.sub_add_cancel, Int32.zero_add] at this
    exact this
  · rintro rfl
    exact Int32.sub_self _
theorem chN_nn (g : Nat → Int32) (v : Nat) : ¬ chN g v < 0 := by
  unfold chN
  by_cases h : 0 < g (v - 1) - g v
  · rw [if_pos h]
    intro q
    rw [Int32.lt_iff_toInt_lt] at h q
    omega
  · rw [if_neg h]
    decide
theorem chh_nn (g : Nat → Int32) (m : Nat) (x : Int32) : ¬ chh g m x < 0 := by
  unfold chh
  split
  · decide
  · split
    · exact chN_nn g _
    · decide
theorem ch_gt {g : Nat → Int32} {v : Nat} {y : Int32} (hy : ¬ y < 0) : (y < g (v - 1) - g v) ↔ y < chN g v := by
  unfold chN
  by_cases h : 0 < g (v - 1) - g v
  · rw [if_pos h]
  · rw [if_neg h]
    rw [Int32.lt_iff_toInt_lt] at h hy
    rw [Int32.lt_iff_toInt_lt, Int32.lt_iff_toInt_lt]
    have z0 : (0 : Int32).toInt = 0 := by decide
    constructor <;> intro q <;> omega
theorem ch_val {g : Nat → Int32} {v : Nat} {y : Int32} (hy : ¬ y < 0) (h : y < g (v - 1) - g v) : g (v - 1) - g v = chN g v := by
  unfold chN
  rw [if_pos]
  rw [Int32.lt_iff_toInt_lt] at h hy ⊢
  have z0 : (0 : Int32).toInt = 0 := by decide
  omega
theorem chN_pos {g : Nat → Int32} {v : Nat} : 0 < chN g v ↔ 0 < g (v - 1) - g v := (ch_gt (by decide)).symm
def bst (g : Nat → Int32) : Nat → Int32 × Int32
  | 0 => (0, -1)
  | i + 1 => (if (bst g i).2 < g i then nI i else (bst g i).1, if (bst g i).2 < g i then g i else (bst g i).2)
theorem bst_eq {g : Nat → Int32} (hg : ¬ g 0 < 0) : ∀ i, bst g (i + 1) = (nI (lmo g (i + 1)), g (lmo g (i + 1)))
  | 0 => by
    have h : (-1 : Int32) < g 0 := by
      rw [Int32.lt_iff_toInt_lt] at hg ⊢
      have z0 : (0 : Int32).toInt = 0 := by decide
      have z1 : (-1 : Int32).toInt = -1 := by decide
      omega
    show (if (-1 : Int32) < g 0 then nI 0 else 0, if (-1 : Int32) < g 0 then g 0 else -1) = _
    rw [if_pos h, if_pos h, lmo_1]
  | i + 1 => by
    rw [bst, bst_eq hg i]
    show (if g (lmo g (i + 1)) < g (i + 1) then nI (i + 1) else nI (lmo g (i + 1)), if g (lmo g (i + 1)) < g (i + 1) then g (i + 1) else g (lmo g (i + 1))) = (nI (if g (lmo g (i + 1)) < g (i + 1) then i + 1 else lmo g (i + 1)), g (if g (lmo g (i + 1)) < g (i + 1) then i + 1 else lmo g (i + 1)))
    by_cases h : g (lmo g (i + 1)) < g (i + 1)
    · rw [if_pos h, if_pos h, if_pos h]
    · rw [if_neg h, if_neg h, if_neg h]
theorem wor_bd {f : Nat → Int32} {p c : Nat} (hI : cIv f c) (hp : p < 25600000) : ∃ k, k ≤ 98901 ∧ wor f p c = nI k := by
  obtain ⟨-, -, h6, h7, -⟩ := hI
  have hv : trN p (f (c * 11 + 5)) < 100 := tr_lt hp
  obtain ⟨a, -, ha2, ea⟩ := wn_nI (a := 0) (b := 999) (by decide) (by decide) h6
  unfold wor
  rw [ea]
  generalize trN p (f (c * 11 + 5)) = v at hv ⊢
  split
  · exact ⟨a, by omega, rfl⟩
  · rename_i n0
    split
    · rename_i n1
      rw [if_pos n1] at h7
      obtain ⟨b, hb1, hb2, eb⟩ := wn_nI (a := 1) (b := 99) (by decide) (by decide) h7
      rw [eb, if_neg (show ¬ nI b < 1 from nI_nlt (b := 1) hb1 (by omega)), pk_div (by omega) (by omega) (by omega), pk_mul]
      refine ⟨v / b * a, ?_, rfl⟩
      have : v / b ≤ 99 := Nat.le_trans (Nat.div_le_self _ _) (by omega)
      exact Nat.le_trans (Nat.mul_le_mul this ha2) (by decide)
    · rename_i n1
      rw [if_neg n1] at h7
      obtain ⟨b, hb1, hb2, eb⟩ := wn_nI (a := 0) (b := 99) (by decide) (by decide) h7
      split
      · rw [eb, pk_mul]
        have hbv : b * v ≤ 99 * 99 := Nat.mul_le_mul hb2 (by omega)
        split
        · rename_i hp0
          have e := pk_sub_toInt (a := a) (b := b * v) (by omega) (by omega)
          rw [Int32.lt_iff_toInt_lt, e] at hp0
          have z0 : (0 : Int32).toInt = 0 := by decide
          exact ⟨a - b * v, by omega, pk_sub (by omega)⟩
        · exact ⟨0, by omega, rfl⟩
      · split
        · split
          · exact ⟨v, by omega, rfl⟩
          · exact ⟨a, by omega, rfl⟩
        · exact ⟨0, by omega, rfl⟩
theorem sumU_bd {P : Nat → Bool} {w : Nat → Int32} {n : Nat} (h : ∀ c, c < n → ∃ k, k ≤ 98901 ∧ w c = nI k) : ∀ i, i ≤ n → ∃ k, k ≤ i * 98901 ∧ sumU P w i = nI k
  | 0, _ => ⟨0, Nat.zero_le _, rfl⟩
  | i + 1, hi => by
    obtain ⟨k, hk, e⟩ := sumU_bd h i (by omega)
    obtain ⟨q, hq, e2⟩ := h i (by omega)
    rw [sumU]
    split
    · exact ⟨k + q, by rw [Nat.succ_mul]; exact Nat.add_le_add hk hq, by rw [e, e2, nI_add]⟩
    · exact ⟨k, Nat.le_trans hk (Nat.mul_le_mul_right _ (Nat.le_succ i)), e⟩
theorem ocm_bd {f : Nat → Int32} {n p : Nat} {d : Int32} (hn : n ≤ 12) (hI : cI f n) (hp : p < 25600000) : ∃ k, k ≤ 1186812 ∧ ocm f n p d = nI k := by
  obtain ⟨k, hk, e⟩ := sumU_bd (P := cnb f (mskU (hbf f p d) n) (stD f (hbf f p d) n n).1) (fun c hc => wor_bd (hI c hc) hp) n (Nat.le_refl n)
  refine ⟨k, ?_, e⟩
  have : n * 98901 ≤ 12 * 98901 := Nat.mul_le_mul_right _ hn
  omega
theorem ocm_nn {f : Nat → Int32} {n p : Nat} {d : Int32} (hn : n ≤ 12) (hI : cI f n) (hp : p < 25600000) : ¬ ocm f n p d < 0 := by
  obtain ⟨k, hk, e⟩ := ocm_bd (d := d) hn hI hp
  rw [e]
  exact nI_pos (by omega)
/-- a difference of two outcomes -/
def dfb (x : Int32) : Prop := -1186812 ≤ x.toInt ∧ x.toInt ≤ 1186812
theorem df_bd {a b : Int32} (ha : ∃ k, k ≤ 1186812 ∧ a = nI k) (hb : ∃ k, k ≤ 1186812 ∧ b = nI k) : dfb (a - b) := by
  obtain ⟨a, ha, rfl⟩ := ha
  obtain ⟨b, hb, rfl⟩ := hb
  unfold dfb
  rw [pk_sub_toInt (by omega) (by omega)]
  omega
theorem neg_b {x : Int32} (h : dfb x) : (-x).toInt = - x.toInt ∧ (0 - x).toInt = - x.toInt := by
  unfold dfb at h
  have z0 : (0 : Int32).toInt = 0 := by decide
  constructor
  · rw [Int32.toInt_neg]
    exact Int.bmod_eq_of_le (by omega) (by omega)
  · rw [Int32.toInt_sub, z0]
    have : ((0 : Int) - x.toInt).bmod (2 ^ 32) = 0 - x.toInt := Int.bmod_eq_of_le (by omega) (by omega)
    rw [this]
    omega
theorem far_nn {g : Nat → Int32} {m : Nat} (hg : ∀ v, v < m → dfb (g v)) : ∀ i, i ≤ m → ¬ far g i < 0
  | 0, _ => by show ¬ (0 : Int32) < 0; decide
  | i + 1, hi => by
    have ih := far_nn hg i (by omega)
    rw [far]
    split
    · rename_i h
      intro q
      rw [Int32.lt_iff_toInt_lt] at ih h q
      omega
    · exact ih
theorem far_s {x y : Int32} (hx : dfb x) (hy : ¬ y < 0) : (if y < ab32 x then ab32 x else y) = (if y < x then x else if y < -x then -x else y) := by
  obtain ⟨n1, n2⟩ := neg_b hx
  have z0 : (0 : Int32).toInt = 0 := by decide
  have e : 0 - x = -x := Int32.toInt_inj.mp (by rw [n1, n2])
  unfold ab32
  rw [e]
  rw [Int32.lt_iff_toInt_lt] at hy
  by_cases h : 0 ≤ x
  · rw [if_pos h]
    rw [Int32.le_iff_toInt_le] at h
    by_cases h1 : y < x
    · rw [if_pos h1, if_pos h1]
    · rw [if_neg h1, if_neg h1, if_neg]
      rw [Int32.lt_iff_toInt_lt, n1]
      omega
  · rw [if_neg h]
    have h2 : ¬ y < x := by
      rw [Int32.le_iff_toInt_le] at h
      rw [Int32.lt_iff_toInt_lt]
      omega
    rw [if_neg h2]
def zps (z : Int32) : Nat → Nat × Int32
  | 0 => (0, z)
  | i + 1 => ((zps z i).1 + zq (zn (zps z i).2) % szN (nI i) * wtN (nI i), zn (zps z i).2)
theorem zps_5 (z : Int32) : zps z 5 = (zp z, zn5 z) := by
  have s0 : szN (nI 0) = 100 ∧ wtN (nI 0) = 1 := by decide
  have s1 : szN (nI 1) = 100 ∧ wtN (nI 1) = 100 := by decide
  have s2 : szN (nI 2) = 10 ∧ wtN (nI 2) = 10000 := by decide
  have s3 : szN (nI 3) = 8 ∧ wtN (nI 3) = 100000 := by decide
  have s4 : szN (nI 4) = 32 ∧ wtN (nI 4) = 800000 := by decide
  simp only [zps, s0.1, s0.2, s1.1, s1.2, s2.1, s2.2, s3.1, s3.2, s4.1, s4.2, zp, zn5]
  congr 1
  omega
theorem szN_5 : ∀ i, i < 5 → (if nI i < 2 then (100 : Int32) else if nI i = 2 then 10 else if nI i = 3 then 8 else 32) = nI (szN (nI i)) ∧ 0 < szN (nI i) ∧ szN (nI i) < 101 := by decide
theorem szN_m {t : Int32} (ht : t = 0 ∨ t = 1 ∨ t = 2 ∨ t = 3) : (if t < 2 then (100 : Int32) else if t = 2 then 10 else if t = 3 then 8 else 32) = nI (szN t) := by rcases ht with rfl | rfl | rfl | rfl <;> decide
def untM (f : Nat → Int32) (n p : Nat) (tot : Int32) : Nat → Nat → Int32
  | 0, _ => -1
  | k + 1, d => if ocm f n p (nI d) = tot then untM f n p tot k (d + 1) else nI d
def cpU (f g : Nat → Int32) (i : Nat) : Nat → Int32 := fun q => if q < i then f q else g q
theorem cpU_0 (f g : Nat → Int32) : cpU f g 0 = g := by funext q; simp [cpU]
theorem cpU_s (f g : Nat → Int32) (i : Nat) : upd (cpU f g i) i (f i) = cpU f g (i + 1) := by
  funext q
  unfold upd cpU
  by_cases h : q = i
  · subst h; rw [if_pos rfl, if_pos (by omega)]
  · rw [if_neg h]
    by_cases h2 : q < i
    · rw [if_pos h2, if_pos (by omega)]
    · rw [if_neg h2, if_neg (by omega)]
theorem cpU_e {f g : Nat → Int32} {i : Nat} : ∀ q, q < i → cpU f g i q = f q := fun q hq => if_pos hq
theorem byt_m (v : Int32) {i : Nat} (hi : i < 4) : (v >>> ((8 * nI i) &&& 31)) &&& 255 = byt v i := by
  have e : (8 : Int32) * nI i = nI (8 * i) := by show nI 8 * nI i = _; rw [pk_mul]
  unfold byt
  rw [e]
  refine b_ext fun j hj => ?_
  rw [b_and, b_and, b_255]
  by_cases h : j < 8
  · rw [b_sshr (8 * i) (by omega) v hj, b_ushr (8 * i) (by omega) v j, if_pos (by omega)]
  · simp [h]

set_option maxHeartbeats 4000000 in
set_option maxRecDepth 100000 in
theorem k_X11_looks (l : Launch) {G : GT} {c : Nat → va_E} {n n1 rn tn n2 qn : Nat} {z hd sd fr tto tk wo iz : Int32} {im : Bool} (o1 : c 32 = .inr (9, [.ref (gad G 33), .ref (gad G 34), .ref (gad G 35), .int (nI n), .int (nI n1), .int z, .int hd, .int sd, .ref (gad G 36), .ref (gad G 37), .int (nI rn), .ref (gad G 38), .int (nI tn), .int fr, .int tto, .int tk, .int wo, .ref (gad G 39), .ref (gad G 40), .ref (gad G 41), .ref (gad G 42), .ref (gad G 43), .ref (gad G 44), .int (nI n2), .int (nI qn), .int iz, .int (bi im)])) {jj nn : Nat} {ff : Nat → Int32} (hj : jj < 45) (aj : c jj = .inl (gI G, 132, .inl ff)) (hnn : nn ≤ 12) {p0 : Nat} {d : Int32} (hp0 : p0 < 25600000) (hI : cI ff nn) : Met l yX11_looks (wv yX11_looks cX11_looks 8 none) ({ frames := 3, cells := 0, slots := 0, locals := 67 } : Room) (va_Pc [.ref (gad G 32), .ref (gad G jj), .int (nI nn), .int (nI p0), .int d] (fun U => Hw G c U U.heap)) (va_Qv (fun c9 : Nat → va_E => c9 = va_up c 32 (.inr (9, [.ref (gad G 33), .ref (gad G 34), .ref (gad G 35), .int (nI n), .int (nI n1), .int z, .int (hdM ff nn p0 d), .int (stM ff nn p0 d), .ref (gad G 36), .ref (gad G 37), .int (nI rn), .ref (gad G 38), .int (nI tn), .int fr, .int tto, .int tk, .int wo, .ref (gad G 39), .ref (gad G 40), .ref (gad G 41), .ref (gad G 42), .ref (gad G 43), .ref (gad G 44), .int (nI n2), .int (nI qn), .int iz, .int (bi im)]))) (fun c9 t => Hw G c9 t t.heap) (gA G)) 0 0 (gA G) := by
  refine en (by decide +kernel) (by first | exact Nat.le_of_ble_eq_true rfl | decide) ?_
  intro p e s m below meth cd ls hx hb hr hml hown hts hlocks hnm hw hl
  have hl : lv_has ls 8 [(0, .ref (gad G 32)), (1, .ref (gad G jj)), (2, .int (nI nn)), (3, .int (nI p0)), (4, .int d)] := hl
  have hX : Sw G s s.heap := hw.2.2.2.2.2
  have hS : va_S (gA G) s.heap s.heap [] := va_S.rf
  obtain ⟨H, hH⟩ : ∃ wz9, wz9 = s.heap := ⟨_, rfl⟩
  obtain ⟨locs, hlocs⟩ : ∃ wz9 : List Loc, wz9 = [] := ⟨_, rfl⟩
  have hw : Hw G c s H := by rw [hH]; exact hw
  have hS : va_S (gA G) s.heap H locs := by rw [hH, hlocs]; exact hS
  suffices hgo : W p l e ({ frames := 3, cells := 0, slots := 0, locals := 67 } : Room) s m (([.ref (gad G 32), .ref (gad G jj), .int (nI nn), .int (nI p0), .int d] : List Value).toArray) below meth cd H locs 0 0 (MQ below (va_Qv (fun c9 : Nat → va_E => c9 = va_up c 32 (.inr (9, [.ref (gad G 33), .ref (gad G 34), .ref (gad G 35), .int (nI n), .int (nI n1), .int z, .int (hdM ff nn p0 d), .int (stM ff nn p0 d), .ref (gad G 36), .ref (gad G 37), .int (nI rn), .ref (gad G 38), .int (nI tn), .int fr, .int tto, .int tk, .int wo, .ref (gad G 39), .ref (gad G 40), .ref (gad G 41), .ref (gad G 42), .ref (gad G 43), .ref (gad G 44), .int (nI n2), .int (nI qn), .int iz, .int (bi im)]))) (fun c9 t => Hw G c9 t t.heap) (gA G)) ([.ref (gad G 32), .ref (gad G jj), .int (nI nn), .int (nI p0), .int d] : List Value).toArray s 0 0 (gA G)) (F0 m 0 ls []) by rw [hH, hlocs] at hgo; exact hgo
  refine lv_aload_n hx hb dX11_looks_0 rfl (lv_at hl 0 rfl) ?_
  refine lv_iconst (v := 0) hx hb dX11_looks_1 (by decide) ?_
  refine w_put (C := RX11) (T := TX11) (N := 27) (v := .int 0) 6 tyX11 hx hb hts inX11 tyX11_ok nmX11 hown hw hX hS (by decide) o1 rfl (by decide) (hts _ tw_891) rfl rfl (rfl) (rfl) (Nat.le_of_ble_eq_true rfl) dX11_looks_2 (fun H locs hw hS => ?_)
  obtain ⟨w2, ew2⟩ : ∃ wz9 : Nat → va_E, wz9 = va_up c 32 (.inr (9, [.ref (gad G 33), .ref (gad G 34), .ref (gad G 35), .int (nI n), .int (nI n1), .int z, .int 0, .int sd, .ref (gad G 36), .ref (gad G 37), .int (nI rn), .ref (gad G 38), .int (nI tn), .int fr, .int tto, .int tk, .int wo, .ref (gad G 39), .ref (gad G 40), .ref (gad G 41), .ref (gad G 42), .ref (gad G 43), .ref (gad G 44), .int (nI n2), .int (nI qn), .int iz, .int (bi im)])) := ⟨_, rfl⟩
  have hw : Hw G w2 s H := by rw [ew2]; exact hw
  have o1_2 : w2 32 = .inr (9, [.ref (gad G 33), .ref (gad G 34), .ref (gad G 35), .int (nI n), .int (nI n1), .int z, .int 0, .int sd, .ref (gad G 36), .ref (gad G 37), .int (nI rn), .ref (gad G 38), .int (nI tn), .int fr, .int tto, .int tk, .int wo, .ref (gad G 39), .ref (gad G 40), .ref (gad G 41), .ref (gad G 42), .ref (gad G 43), .ref (gad G 44), .int (nI n2), .int (nI qn), .int iz, .int (bi im)]) := by rw [ew2]; exact vu_s
  have aj_2 : w2 jj = .inl (gI G, 132, .inl ff) := by rw [ew2]; exact vu_e (Ne.symm (ne_oa o1 aj)) aj
  refine lv_aload_n hx hb dX11_looks_5 rfl (lv_at hl 0 rfl) ?_
  refine lv_iconst (v := 0) hx hb dX11_looks_6 (by decide) ?_
  refine w_put (C := RX11) (T := TX11) (N := 27) (v := .int 0) 7 tyX11 hx hb hts inX11 tyX11_ok nmX11 hown hw hX hS (by decide) o1_2 rfl (by decide) (hts _ tw_892) rfl rfl (rfl) (rfl) (Nat.le_of_ble_eq_true rfl) dX11_looks_7 (fun H locs hw hS => ?_)
  obtain ⟨w4, ew4⟩ : ∃ wz9 : Nat → va_E, wz9 = va_up w2 32 (.inr (9, [.ref (gad G 33), .ref (gad G 34), .ref (gad G 35), .int (nI n), .int (nI n1), .int z, .int 0, .int 0, .ref (gad G 36), .ref (gad G 37), .int (nI rn), .ref (gad G 38), .int (nI tn), .int fr, .int tto, .int tk, .int wo, .ref (gad G 39), .ref (gad G 40), .ref (gad G 41), .ref (gad G 42), .ref (gad G 43), .ref (gad G 44), .int (nI n2), .int (nI qn), .int iz, .int (bi im)])) := ⟨_, rfl⟩
  have hw : Hw G w4 s H := by rw [ew4]; exact hw
  have o1_4 : w4 32 = .inr (9, [.ref (gad G 33), .ref (gad G 34), .ref (gad G 35), .int (nI n), .int (nI n1), .int z, .int 0, .int 0, .ref (gad G 36), .ref (gad G 37), .int (nI rn), .ref (gad G 38), .int (nI tn), .int fr, .int tto, .int tk, .int wo, .ref (gad G 39), .ref (gad G 40), .ref (gad G 41), .ref (gad G 42), .ref (gad G 43), .ref (gad G 44), .int (nI n2), .int (nI qn), .int iz, .int (bi im)]) := by rw [ew4]; exact vu_s
  have aj_4 : w4 jj = .inl (gI G, 132, .inl ff) := by rw [ew4]; exact vu_e (Ne.symm (ne_oa o1 aj)) aj_2
  refine lv_iconst (v := 0) hx hb dX11_looks_10 (by decide) ?_
  refine lv_istore (lv' := [(5, _), (0, _), (1, _), (2, _), (3, _), (4, _)]) hx hb dX11_looks_11 hl (by decide) rfl (fun ls hl => ?_)
  refine lv_iload_n hx hb dX11_looks_13 rfl (lv_at hl 3 rfl) ?_
  refine lv_iconst (v := 1) hx hb dX11_looks_14 (by decide) ?_
  refine lv_isub hx hb dX11_looks_15 ?_
  refine lv_istore (lv' := [(6, _), (5, _), (0, _), (1, _), (2, _), (3, _), (4, _)]) hx hb dX11_looks_16 hl (by decide) rfl (fun ls hl => ?_)
  have L18 : ∀ (N : Nat) (hh sx y : Int32), (N ≤ nn) → ((sx, y) = stD ff (hbf ff p0 d) nn (nn - N)) → (hh = mskD (hbf ff p0 d) nn (nn - N)) → ∀ (c0 : Nat → va_E) (H : Heap) (locs : List Loc), (c0 = va_up c 32 (.inr (9, [.ref (gad G 33), .ref (gad G 34), .ref (gad G 35), .int (nI n), .int (nI n1), .int z, .int (hh), .int (sx), .ref (gad G 36), .ref (gad G 37), .int (nI rn), .ref (gad G 38), .int (nI tn), .int fr, .int tto, .int tk, .int wo, .ref (gad G 39), .ref (gad G 40), .ref (gad G 41), .ref (gad G 42), .ref (gad G 43), .ref (gad G 44), .int (nI n2), .int (nI qn), .int iz, .int (bi im)]))) → Hw G c0 s H → va_S (gA G) s.heap H locs → ∀ ls : Array Slot, lv_has ls 8 [(6, .int (nI N - 1)), (5, .int y), (4, .int d), (3, .int (nI p0)), (2, .int (nI nn)), (1, .ref (gad G jj)), (0, .ref (gad G 32))] → W p l e ({ frames := 3, cells := 0, slots := 0, locals := 67 } : Room) s m (([.ref (gad G 32), .ref (gad G jj), .int (nI nn), .int (nI p0), .int d] : List Value).toArray) below meth cd H locs 0 0 (MQ below (va_Qv (fun c9 : Nat → va_E => c9 = va_up c 32 (.inr (9, [.ref (gad G 33), .ref (gad G 34), .ref (gad G 35), .int (nI n), .int (nI n1), .int z, .int (hdM ff nn p0 d), .int (stM ff nn p0 d), .ref (gad G 36), .ref (gad G 37), .int (nI rn), .ref (gad G 38), .int (nI tn), .int fr, .int tto, .int tk, .int wo, .ref (gad G 39), .ref (gad G 40), .ref (gad G 41), .ref (gad G 42), .ref (gad G 43), .ref (gad G 44), .int (nI n2), .int (nI qn), .int iz, .int (bi im)]))) (fun c9 t => Hw G c9 t t.heap) (gA G)) ([.ref (gad G 32), .ref (gad G jj), .int (nI nn), .int (nI p0), .int d] : List Value).toArray s 0 0 (gA G)) (F0 m 18 ls []) := by
    intro N
    induction N with
    | zero =>
      intro hh sx y  hN hA hB c0 H locs e0 hw hS ls hl
      rw [Nat.sub_zero] at hA hB
      refine lv_iload hx hb dX11_looks_18 (lv_at hl 0 rfl) ?_
      refine lv_if_lt (tgt := 124) hx hb dX11_looks_20 (by decide) (fun c20 => ?_) (fun q => absurd (by decide) q)
      exact re_V hx hb hr hlocks hw hS dX11_looks_124 (by rw [e0, hB, mskD_U (by omega)]; rw [show sx = (stD ff (hbf ff p0 d) nn nn).1 from by rw [← hA]]; rfl)
    | succ N ih =>
      intro hh sx y  hN hA hB c0 H locs e0 hw hS ls hl
      have hne := ne_oa o1 aj
      rw [nI_pred] at hl
      have o1 : c0 32 = .inr (9, [.ref (gad G 33), .ref (gad G 34), .ref (gad G 35), .int (nI n), .int (nI n1), .int z, .int (hh), .int (sx), .ref (gad G 36), .ref (gad G 37), .int (nI rn), .ref (gad G 38), .int (nI tn), .int fr, .int tto, .int tk, .int wo, .ref (gad G 39), .ref (gad G 40), .ref (gad G 41), .ref (gad G 42), .ref (gad G 43), .ref (gad G 44), .int (nI n2), .int (nI qn), .int iz, .int (bi im)]) := by rw [e0]; exact vu_s
      have aj : c0 jj = .inl (gI G, 132, .inl ff) := by rw [e0]; exact vu_e (Ne.symm hne) aj
      refine lv_iload hx hb dX11_looks_18 (lv_at hl 0 rfl) ?_
      refine lv_if_lt (tgt := 124) hx hb dX11_looks_20 (by decide) (fun q => absurd q (nI_pos (by omega))) (fun c20 => ?_)
      refine lv_aload_n hx hb dX11_looks_23 rfl (lv_at hl 5 rfl) ?_
      refine lv_iload hx hb dX11_looks_24 (lv_at hl 0 rfl) ?_
      refine lv_iload hx hb dX11_looks_26 (lv_at hl 2 rfl) ?_
      refine cSe (rS (As := [_, _, _]) ⟨hx, hb, hml, hown, hts⟩ hw (k_X11_isOfSpan l hj aj hnn (by omega)) (cv_X11_isOfSpan hts tw_1065 rfl rfl ⟨Nat.le_of_ble_eq_true rfl, Nat.le_of_ble_eq_true rfl⟩) rfl hl.1 rfl (by first | exact Nat.le_of_ble_eq_true rfl | decide) dX11_looks_28 ⟨Nat.zero_le _, Nat.zero_le _⟩) ?_
      refine zb_eq (tgt := 118) hx hb dX11_looks_31 (by decide) (fun c31 => ?_) (fun c31 => ?_)
      · refine lv_iinc (v := nI N - 1) (lv' := [(6, _), (5, _), (4, _), (3, _), (2, _), (1, _), (0, _)]) hx hb dX11_looks_118 hl (k := 0) rfl (incm _) (by decide) rfl (fun ls hl => ?_)
        refine lv_goto (tgt := 18) hx hb dX11_looks_121 (by decide) ?_
        exact ih hh sx _ (by omega) (by rw [stD_s hN, ← hA]; simp [stp, hbf, isn, or0, c31]) (by rw [mskD_s hN, ← hB]; simp [hbf, c31]) _ H locs (by rw [e0]) hw hS ls (lv_sub hl [0, 1, 2, 3, 4, 5, 6] rfl)
      · refine lv_aload_n hx hb dX11_looks_34 rfl (lv_at hl 5 rfl) ?_
        refine lv_iload hx hb dX11_looks_35 (lv_at hl 0 rfl) ?_
        refine lv_iload_n hx hb dX11_looks_37 rfl (lv_at hl 3 rfl) ?_
        refine cSe (rS (As := [_, _, _]) ⟨hx, hb, hml, hown, hts⟩ hw (k_X11_isSo l hj aj hnn (by omega) hp0 (hI N (by omega))) (cv_X11_isSo hts tw_1068 rfl rfl ⟨Nat.le_of_ble_eq_true rfl, Nat.le_of_ble_eq_true rfl⟩) rfl hl.1 rfl (by first | exact Nat.le_of_ble_eq_true rfl | decide) dX11_looks_38 ⟨Nat.zero_le _, Nat.zero_le _⟩) ?_
        refine zb_ne (tgt := 47) hx hb dX11_looks_41 (by decide) (fun c41 => ?_) (fun c41 => ?_)
        · refine lv_aload_n hx hb dX11_looks_47 rfl (lv_at hl 6 rfl) ?_
          refine lv_dup hx hb dX11_looks_48 rfl ?_
          refine w_get (C := RX11) (T := TX11) (N := 27) 6 hx hb hts inX11 hown hw (by decide) o1 rfl (by decide) (hts _ tw_891) rfl dX11_looks_49 ?_
          refine lv_iconst (v := 1) hx hb dX11_looks_52 (by decide) ?_
          refine lv_iload hx hb dX11_looks_53 (lv_at hl 0 rfl) ?_
          refine lv_ishl hx hb dX11_looks_55 ?_
          refine lv_ior hx hb dX11_looks_56 ?_
          refine w_put (C := RX11) (T := TX11) (N := 27) (v := .int (hh ||| ((1 : Int32) <<< (nI N &&& 31)))) 6 tyX11 hx hb hts inX11 tyX11_ok nmX11 hown hw hX hS (by decide) o1 rfl (by decide) (hts _ tw_891) rfl rfl (rfl) (rfl) (Nat.le_of_ble_eq_true rfl) dX11_looks_57 (fun H locs hw hS => ?_)
          obtain ⟨w6, ew6⟩ : ∃ wz9 : Nat → va_E, wz9 = va_up c0 32 (.inr (9, [.ref (gad G 33), .ref (gad G 34), .ref (gad G 35), .int (nI n), .int (nI n1), .int z, .int (hh ||| ((1 : Int32) <<< (nI N &&& 31))), .int (sx), .ref (gad G 36), .ref (gad G 37), .int (nI rn), .ref (gad G 38), .int (nI tn), .int fr, .int tto, .int tk, .int wo, .ref (gad G 39), .ref (gad G 40), .ref (gad G 41), .ref (gad G 42), .ref (gad G 43), .ref (gad G 44), .int (nI n2), .int (nI qn), .int iz, .int (bi im)])) := ⟨_, rfl⟩
          have hw : Hw G w6 s H := by rw [ew6]; exact hw
          have o1_6 : w6 32 = .inr (9, [.ref (gad G 33), .ref (gad G 34), .ref (gad G 35), .int (nI n), .int (nI n1), .int z, .int (hh ||| ((1 : Int32) <<< (nI N &&& 31))), .int (sx), .ref (gad G 36), .ref (gad G 37), .int (nI rn), .ref (gad G 38), .int (nI tn), .int fr, .int tto, .int tk, .int wo, .ref (gad G 39), .ref (gad G 40), .ref (gad G 41), .ref (gad G 42), .ref (gad G 43), .ref (gad G 44), .int (nI n2), .int (nI qn), .int iz, .int (bi im)]) := by rw [ew6]; exact vu_s
          have aj_6 : w6 jj = .inl (gI G, 132, .inl ff) := by rw [ew6]; exact vu_e (Ne.symm (ne_oa o1 aj)) aj
          skip
          refine lv_iload hx hb dX11_looks_60 (lv_at hl 1 rfl) ?_
          refine lv_iload hx hb dX11_looks_62 (lv_at hl 0 rfl) ?_
          refine lv_ishr hx hb dX11_looks_64 ?_
          refine lv_iconst (v := 1) hx hb dX11_looks_65 (by decide) ?_
          refine lv_iand hx hb dX11_looks_66 ?_
          refine lv_iconst (v := 1) hx hb dX11_looks_67 (by decide) ?_
          refine lv_icmp_ne (tgt := 74) hx hb dX11_looks_68 (by decide) (fun c68 => ?_) (fun c68 => ?_)
          · refine lv_aload_n hx hb dX11_looks_74 rfl (lv_at hl 6 rfl) ?_
            refine lv_dup hx hb dX11_looks_75 rfl ?_
            refine w_get (C := RX11) (T := TX11) (N := 27) 7 hx hb hts inX11 hown hw (by decide) o1_6 rfl (by decide) (hts _ tw_892) rfl dX11_looks_76 ?_
            refine lv_iconst (v := 1) hx hb dX11_looks_79 (by decide) ?_
            refine lv_iload hx hb dX11_looks_80 (lv_at hl 0 rfl) ?_
            refine lv_ishl hx hb dX11_looks_82 ?_
            refine lv_ior hx hb dX11_looks_83 ?_
            refine w_put (C := RX11) (T := TX11) (N := 27) (v := .int (sx ||| ((1 : Int32) <<< (nI N &&& 31)))) 7 tyX11 hx hb hts inX11 tyX11_ok nmX11 hown hw hX hS (by decide) o1_6 rfl (by decide) (hts _ tw_892) rfl rfl (rfl) (rfl) (Nat.le_of_ble_eq_true rfl) dX11_looks_84 (fun H locs hw hS => ?_)
            obtain ⟨w8, ew8⟩ : ∃ wz9 : Nat → va_E, wz9 = va_up w6 32 (.inr (9, [.ref (gad G 33), .ref (gad G 34), .ref (gad G 35), .int (nI n), .int (nI n1), .int z, .int (hh ||| ((1 : Int32) <<< (nI N &&& 31))), .int (sx ||| ((1 : Int32) <<< (nI N &&& 31))), .ref (gad G 36), .ref (gad G 37), .int (nI rn), .ref (gad G 38), .int (nI tn), .int fr, .int tto, .int tk, .int wo, .ref (gad G 39), .ref (gad G 40), .ref (gad G 41), .ref (gad G 42), .ref (gad G 43), .ref (gad G 44), .int (nI n2), .int (nI qn), .int iz, .int (bi im)])) := ⟨_, rfl⟩
            have hw : Hw G w8 s H := by rw [ew8]; exact hw
            have o1_8 : w8 32 = .inr (9, [.ref (gad G 33), .ref (gad G 34), .ref (gad G 35), .int (nI n), .int (nI n1), .int z, .int (hh ||| ((1 : Int32) <<< (nI N &&& 31))), .int (sx ||| ((1 : Int32) <<< (nI N &&& 31))), .ref (gad G 36), .ref (gad G 37), .int (nI rn), .ref (gad G 38), .int (nI tn), .int fr, .int tto, .int tk, .int wo, .ref (gad G 39), .ref (gad G 40), .ref (gad G 41), .ref (gad G 42), .ref (gad G 43), .ref (gad G 44), .int (nI n2), .int (nI qn), .int iz, .int (bi im)]) := by rw [ew8]; exact vu_s
            have aj_8 : w8 jj = .inl (gI G, 132, .inl ff) := by rw [ew8]; exact vu_e (Ne.symm (ne_oa o1 aj)) aj_6
            skip
            refine lv_aload_n hx hb dX11_looks_87 rfl (lv_at hl 5 rfl) ?_
            refine lv_bipush (v := 11) hx hb dX11_looks_88 (by decide) ?_
            refine lv_iload hx hb dX11_looks_90 (lv_at hl 0 rfl) ?_
            refine lv_imul hx hb dX11_looks_92 ?_
            refine lv_bipush (v := 10) hx hb dX11_looks_93 (by decide) ?_
            refine lv_iadd hx hb dX11_looks_95 ?_
            refine w_ialdN (j := N * 11 + 10) hx hb hw hj aj_8 (ixm N 10) (by omega) (by decide) dX11_looks_96 ?_
            refine lv_istore (lv' := [(7, _), (6, _), (5, _), (4, _), (3, _), (2, _), (1, _), (0, _)]) hx hb dX11_looks_97 hl (by decide) rfl (fun ls hl => ?_)
            refine lv_iload hx hb dX11_looks_99 (lv_at hl 2 rfl) ?_
            refine lv_iload hx hb dX11_looks_101 (lv_at hl 0 rfl) ?_
            refine lv_iconst (v := (-1)) hx hb dX11_looks_103 (by decide) ?_
            refine lv_icmp_ne (tgt := 111) hx hb dX11_looks_104 (by decide) (fun c104 => ?_) (fun c104 => ?_)
            · refine lv_iconst (v := 1) hx hb dX11_looks_111 (by decide) ?_
              refine lv_iload hx hb dX11_looks_112 (lv_at hl 0 rfl) ?_
              refine lv_ishl hx hb dX11_looks_114 ?_
              refine lv_ior hx hb dX11_looks_115 ?_
              refine lv_istore (lv' := [(5, _), (7, _), (6, _), (4, _), (3, _), (2, _), (1, _), (0, _)]) hx hb dX11_looks_116 hl (by decide) rfl (fun ls hl => ?_)
              refine lv_iinc (v := nI N - 1) (lv' := [(6, _), (5, _), (7, _), (4, _), (3, _), (2, _), (1, _), (0, _)]) hx hb dX11_looks_118 hl (k := 2) rfl (incm _) (by decide) rfl (fun ls hl => ?_)
              refine lv_goto (tgt := 18) hx hb dX11_looks_121 (by decide) ?_
              exact ih (hh ||| ((1 : Int32) <<< (nI N &&& 31))) (sx ||| ((1 : Int32) <<< (nI N &&& 31))) _ (by omega) (by rw [stD_s hN, ← hA]; simp [stp, hbf, isn, or0, c31, c41, c68, c104]) (by rw [mskD_s hN, ← hB]; simp [hbf, c31, c41]) _ H locs (by rw [ew8, ew6, e0, up_up, up_up]) hw hS ls (lv_sub hl [0, 1, 3, 4, 5, 6, 7] rfl)
            · refine lv_iconst (v := 0) hx hb dX11_looks_107 (by decide) ?_
              refine lv_goto (tgt := 115) hx hb dX11_looks_108 (by decide) ?_
              refine lv_ior hx hb dX11_looks_115 ?_
              refine lv_istore (lv' := [(5, _), (7, _), (6, _), (4, _), (3, _), (2, _), (1, _), (0, _)]) hx hb dX11_looks_116 hl (by decide) rfl (fun ls hl => ?_)
              refine lv_iinc (v := nI N - 1) (lv' := [(6, _), (5, _), (7, _), (4, _), (3, _), (2, _), (1, _), (0, _)]) hx hb dX11_looks_118 hl (k := 2) rfl (incm _) (by decide) rfl (fun ls hl => ?_)
              refine lv_goto (tgt := 18) hx hb dX11_looks_121 (by decide) ?_
              exact ih (hh ||| ((1 : Int32) <<< (nI N &&& 31))) (sx ||| ((1 : Int32) <<< (nI N &&& 31))) _ (by omega) (by rw [stD_s hN, ← hA]; simp [stp, hbf, isn, or0, c31, c41, c68, if_pos c104]) (by rw [mskD_s hN, ← hB]; simp [hbf, c31, c41]) _ H locs (by rw [ew8, ew6, e0, up_up, up_up]) hw hS ls (lv_sub hl [0, 1, 3, 4, 5, 6, 7] rfl)
          · refine lv_goto (tgt := 118) hx hb dX11_looks_71 (by decide) ?_
            refine lv_iinc (v := nI N - 1) (lv' := [(6, _), (5, _), (4, _), (3, _), (2, _), (1, _), (0, _)]) hx hb dX11_looks_118 hl (k := 0) rfl (incm _) (by decide) rfl (fun ls hl => ?_)
            refine lv_goto (tgt := 18) hx hb dX11_looks_121 (by decide) ?_
            exact ih (hh ||| ((1 : Int32) <<< (nI N &&& 31))) sx _ (by omega) (by rw [stD_s hN, ← hA]; simp [stp, hbf, isn, or0, c31, c41, c68]) (by rw [mskD_s hN, ← hB]; simp [hbf, c31, c41]) _ H locs (by rw [ew6, e0, up_up]) hw hS ls (lv_sub hl [0, 1, 2, 3, 4, 5, 6] rfl)
        · refine lv_goto (tgt := 118) hx hb dX11_looks_44 (by decide) ?_
          refine lv_iinc (v := nI N - 1) (lv' := [(6, _), (5, _), (4, _), (3, _), (2, _), (1, _), (0, _)]) hx hb dX11_looks_118 hl (k := 0) rfl (incm _) (by decide) rfl (fun ls hl => ?_)
          refine lv_goto (tgt := 18) hx hb dX11_looks_121 (by decide) ?_
          exact ih hh sx _ (by omega) (by rw [stD_s hN, ← hA]; simp [stp, hbf, isn, or0, c31, c41]) (by rw [mskD_s hN, ← hB]; simp [hbf, c31, c41]) _ H locs (by rw [e0]) hw hS ls (lv_sub hl [0, 1, 2, 3, 4, 5, 6] rfl)
  exact L18 nn 0 0 0 (Nat.le_refl nn) (by rw [Nat.sub_self]; rfl) (by rw [Nat.sub_self]; rfl) _ H locs (by rw [ew4, ew2, up_up]) hw hS ls (lv_sub hl [0, 1, 6, 5, 4, 3, 2] rfl)
set_option maxHeartbeats 4000000 in
set_option maxRecDepth 100000 in
theorem k_X11_counts (l : Launch) {G : GT} {c : Nat → va_E} {n n1 rn tn n2 qn : Nat} {z hd sd fr tto tk wo iz : Int32} {im : Bool} (o1 : c 32 = .inr (9, [.ref (gad G 33), .ref (gad G 34), .ref (gad G 35), .int (nI n), .int (nI n1), .int z, .int hd, .int sd, .ref (gad G 36), .ref (gad G 37), .int (nI rn), .ref (gad G 38), .int (nI tn), .int fr, .int tto, .int tk, .int wo, .ref (gad G 39), .ref (gad G 40), .ref (gad G 41), .ref (gad G 42), .ref (gad G 43), .ref (gad G 44), .int (nI n2), .int (nI qn), .int iz, .int (bi im)])) {jj nn : Nat} {ff : Nat → Int32} (hj : jj < 45) (aj : c jj = .inl (gI G, 132, .inl ff)) (hnn : nn ≤ 12) {a : Nat} (ha : a < nn) : Met l yX11_counts (wv yX11_counts cX11_counts 4 (some .boolean)) ({ frames := 0, cells := 0, slots := 0, locals := 0 } : Room) (va_Pc [.ref (gad G 32), .ref (gad G jj), .int (nI a)] (fun U => Hw G c U U.heap)) (vp_Si (fun r => r = bi (cnb ff hd sd a))) 0 0 (fun _ => False) := by
  refine en (by decide +kernel) (by first | exact Nat.le_of_ble_eq_true rfl | decide) ?_
  intro p e s m below meth cd ls hx hb hr hml hown hts hlocks hnm hw hl
  have hl : lv_has ls 4 [(0, .ref (gad G 32)), (1, .ref (gad G jj)), (2, .int (nI a))] := hl
  refine lv_aload_n hx hb dX11_counts_0 rfl (lv_at hl 1 rfl) ?_
  refine lv_bipush (v := 11) hx hb dX11_counts_1 (by decide) ?_
  refine lv_iload_n hx hb dX11_counts_3 rfl (lv_at hl 2 rfl) ?_
  refine lv_imul hx hb dX11_counts_4 ?_
  refine lv_bipush (v := 10) hx hb dX11_counts_5 (by decide) ?_
  refine lv_iadd hx hb dX11_counts_7 ?_
  refine w_ialdN (j := a * 11 + 10) hx hb hw hj aj (ixm a 10) (by omega) (by decide) dX11_counts_8 ?_
  refine lv_istore_n (lv' := [(3, _), (0, _), (1, _), (2, _)]) hx hb dX11_counts_9 rfl hl (by decide) rfl (fun ls hl => ?_)
  refine lv_aload_n hx hb dX11_counts_10 rfl (lv_at hl 1 rfl) ?_
  refine w_get (C := RX11) (T := TX11) (N := 27) 7 hx hb hts inX11 hown hw (by decide) o1 rfl (by decide) (hts _ tw_892) rfl dX11_counts_11 ?_
  refine lv_iload_n hx hb dX11_counts_14 rfl (lv_at hl 3 rfl) ?_
  refine lv_ishr hx hb dX11_counts_15 ?_
  refine lv_iconst (v := 1) hx hb dX11_counts_16 (by decide) ?_
  refine lv_iand hx hb dX11_counts_17 ?_
  refine lv_iconst (v := 1) hx hb dX11_counts_18 (by decide) ?_
  refine lv_icmp_ne (tgt := 43) hx hb dX11_counts_19 (by decide) (fun c19 => ?_) (fun c19 => ?_)
  · refine lv_iconst (v := 0) hx hb dX11_counts_43 (by decide) ?_
    exact re_S hx hb hr hlocks (rfl) dX11_counts_44 (by simp [bi, cnb, isn, c19])
  · refine lv_iload_n hx hb dX11_counts_22 rfl (lv_at hl 0 rfl) ?_
    refine lv_iconst (v := (-1)) hx hb dX11_counts_23 (by decide) ?_
    refine lv_icmp_eq (tgt := 39) hx hb dX11_counts_24 (by decide) (fun c24 => ?_) (fun c24 => ?_)
    · refine lv_iconst (v := 1) hx hb dX11_counts_39 (by decide) ?_
      refine lv_goto (tgt := 44) hx hb dX11_counts_40 (by decide) ?_
      exact re_S hx hb hr hlocks (rfl) dX11_counts_44 (by simp [bi, cnb, isn, c19, c24])
    · refine lv_aload_n hx hb dX11_counts_27 rfl (lv_at hl 1 rfl) ?_
      refine w_get (C := RX11) (T := TX11) (N := 27) 6 hx hb hts inX11 hown hw (by decide) o1 rfl (by decide) (hts _ tw_891) rfl dX11_counts_28 ?_
      refine lv_iload_n hx hb dX11_counts_31 rfl (lv_at hl 0 rfl) ?_
      refine lv_ishr hx hb dX11_counts_32 ?_
      refine lv_iconst (v := 1) hx hb dX11_counts_33 (by decide) ?_
      refine lv_iand hx hb dX11_counts_34 ?_
      refine lv_iconst (v := 1) hx hb dX11_counts_35 (by decide) ?_
      refine lv_icmp_ne (tgt := 43) hx hb dX11_counts_36 (by decide) (fun c36 => ?_) (fun c36 => ?_)
      · refine lv_iconst (v := 0) hx hb dX11_counts_43 (by decide) ?_
        exact re_S hx hb hr hlocks (rfl) dX11_counts_44 (by simp [bi, cnb, isn, c19, c24, c36])
      · refine lv_iconst (v := 1) hx hb dX11_counts_39 (by decide) ?_
        refine lv_goto (tgt := 44) hx hb dX11_counts_40 (by decide) ?_
        exact re_S hx hb hr hlocks (rfl) dX11_counts_44 (by simp [bi, cnb, isn, c19, c24, c36])
set_option maxHeartbeats 4000000 in
set_option maxRecDepth 100000 in
theorem k_X11_outcomeOf (l : Launch) {G : GT} {c : Nat → va_E} {n n1 rn tn n2 qn : Nat} {z hd sd fr tto tk wo iz : Int32} {im : Bool} (o1 : c 32 = .inr (9, [.ref (gad G 33), .ref (gad G 34), .ref (gad G 35), .int (nI n), .int (nI n1), .int z, .int hd, .int sd, .ref (gad G 36), .ref (gad G 37), .int (nI rn), .ref (gad G 38), .int (nI tn), .int fr, .int tto, .int tk, .int wo, .ref (gad G 39), .ref (gad G 40), .ref (gad G 41), .ref (gad G 42), .ref (gad G 43), .ref (gad G 44), .int (nI n2), .int (nI qn), .int iz, .int (bi im)])) {jj nn : Nat} {ff : Nat → Int32} (hj : jj < 45) (aj : c jj = .inl (gI G, 132, .inl ff)) (hnn : nn ≤ 12) {p0 : Nat} {d : Int32} (hp0 : p0 < 25600000) (hI : cI ff nn) : Met l yX11_outcomeOf (wv yX11_outcomeOf cX11_outcomeOf 7 (some .int)) ({ frames := 4, cells := 0, slots := 0, locals := 94 } : Room) (va_Pc [.ref (gad G 32), .ref (gad G jj), .int (nI nn), .int (nI p0), .int d] (fun U => Hw G c U U.heap)) (va_Qi (fun r (c9 : Nat → va_E) => r = ocm ff nn p0 d ∧ c9 = va_up c 32 (.inr (9, [.ref (gad G 33), .ref (gad G 34), .ref (gad G 35), .int (nI n), .int (nI n1), .int z, .int (hdM ff nn p0 d), .int (stM ff nn p0 d), .ref (gad G 36), .ref (gad G 37), .int (nI rn), .ref (gad G 38), .int (nI tn), .int fr, .int tto, .int tk, .int wo, .ref (gad G 39), .ref (gad G 40), .ref (gad G 41), .ref (gad G 42), .ref (gad G 43), .ref (gad G 44), .int (nI n2), .int (nI qn), .int iz, .int (bi im)]))) (fun c9 t => Hw G c9 t t.heap) (gA G)) 0 0 (gA G) := by
  refine en (by decide +kernel) (by first | exact Nat.le_of_ble_eq_true rfl | decide) ?_
  intro p e s m below meth cd ls hx hb hr hml hown hts hlocks hnm hw hl
  have hl : lv_has ls 7 [(0, .ref (gad G 32)), (1, .ref (gad G jj)), (2, .int (nI nn)), (3, .int (nI p0)), (4, .int d)] := hl
  have hX : Sw G s s.heap := hw.2.2.2.2.2
  have hS : va_S (gA G) s.heap s.heap [] := va_S.rf
  obtain ⟨H, hH⟩ : ∃ wz9, wz9 = s.heap := ⟨_, rfl⟩
  obtain ⟨locs, hlocs⟩ : ∃ wz9 : List Loc, wz9 = [] := ⟨_, rfl⟩
  have hw : Hw G c s H := by rw [hH]; exact hw
  have hS : va_S (gA G) s.heap H locs := by rw [hH, hlocs]; exact hS
  suffices hgo : W p l e ({ frames := 4, cells := 0, slots := 0, locals := 94 } : Room) s m (([.ref (gad G 32), .ref (gad G jj), .int (nI nn), .int (nI p0), .int d] : List Value).toArray) below meth cd H locs 0 0 (MQ below (va_Qi (fun r (c9 : Nat → va_E) => r = ocm ff nn p0 d ∧ c9 = va_up c 32 (.inr (9, [.ref (gad G 33), .ref (gad G 34), .ref (gad G 35), .int (nI n), .int (nI n1), .int z, .int (hdM ff nn p0 d), .int (stM ff nn p0 d), .ref (gad G 36), .ref (gad G 37), .int (nI rn), .ref (gad G 38), .int (nI tn), .int fr, .int tto, .int tk, .int wo, .ref (gad G 39), .ref (gad G 40), .ref (gad G 41), .ref (gad G 42), .ref (gad G 43), .ref (gad G 44), .int (nI n2), .int (nI qn), .int iz, .int (bi im)]))) (fun c9 t => Hw G c9 t t.heap) (gA G)) ([.ref (gad G 32), .ref (gad G jj), .int (nI nn), .int (nI p0), .int d] : List Value).toArray s 0 0 (gA G)) (F0 m 0 ls []) by rw [hH, hlocs] at hgo; exact hgo
  refine lv_aload_n hx hb dX11_outcomeOf_0 rfl (lv_at hl 0 rfl) ?_
  refine lv_aload_n hx hb dX11_outcomeOf_1 rfl (lv_at hl 1 rfl) ?_
  refine lv_iload_n hx hb dX11_outcomeOf_2 rfl (lv_at hl 2 rfl) ?_
  refine lv_iload_n hx hb dX11_outcomeOf_3 rfl (lv_at hl 3 rfl) ?_
  refine lv_iload hx hb dX11_outcomeOf_4 (lv_at hl 4 rfl) ?_
  refine cQv (rV (As := [_, _, _, _]) ⟨hx, hb, hml, hown, hts⟩ hw (k_X11_looks l o1 hj aj hnn hp0 hI) (cv_X11_looks hts tw_1061 rfl rfl ⟨Nat.le_of_ble_eq_true rfl, Nat.le_of_ble_eq_true rfl⟩) (by decide) o1 rfl rfl hl.1 rfl (by first | exact Nat.le_of_ble_eq_true rfl | decide) dX11_outcomeOf_6 ⟨Nat.zero_le _, Nat.zero_le _⟩) hw hS (fun w1 H locs hp6 hw hS => ?_)
  have o1_1 : w1 32 = .inr (9, [.ref (gad G 33), .ref (gad G 34), .ref (gad G 35), .int (nI n), .int (nI n1), .int z, .int (hdM ff nn p0 d), .int (stM ff nn p0 d), .ref (gad G 36), .ref (gad G 37), .int (nI rn), .ref (gad G 38), .int (nI tn), .int fr, .int tto, .int tk, .int wo, .ref (gad G 39), .ref (gad G 40), .ref (gad G 41), .ref (gad G 42), .ref (gad G 43), .ref (gad G 44), .int (nI n2), .int (nI qn), .int iz, .int (bi im)]) := by rw [hp6]; exact vu_s
  have aj_1 : w1 jj = .inl (gI G, 132, .inl ff) := by rw [hp6]; exact (vu_e (Ne.symm (ne_oa o1 aj)) aj)
  refine lv_iconst (v := 0) hx hb dX11_outcomeOf_9 (by decide) ?_
  refine lv_istore (lv' := [(5, _), (0, _), (1, _), (2, _), (3, _), (4, _)]) hx hb dX11_outcomeOf_10 hl (by decide) rfl (fun ls hl => ?_)
  refine lv_iconst (v := 0) hx hb dX11_outcomeOf_12 (by decide) ?_
  refine lv_istore (lv' := [(6, _), (5, _), (0, _), (1, _), (2, _), (3, _), (4, _)]) hx hb dX11_outcomeOf_13 hl (by decide) rfl (fun ls hl => ?_)
  have L15 : ∀ (N : Nat) (i : Nat) (x : Int32), (i + N = nn) → (x = sumU (cnb ff (hdM ff nn p0 d) (stM ff nn p0 d)) (wor ff p0) i) → ∀ ls : Array Slot, lv_has ls 7 [(6, .int (nI i)), (5, .int x), (4, .int d), (3, .int (nI p0)), (2, .int (nI nn)), (1, .ref (gad G jj)), (0, .ref (gad G 32))] → W p l e ({ frames := 4, cells := 0, slots := 0, locals := 94 } : Room) s m (([.ref (gad G 32), .ref (gad G jj), .int (nI nn), .int (nI p0), .int d] : List Value).toArray) below meth cd H locs 0 0 (MQ below (va_Qi (fun r (c9 : Nat → va_E) => r = ocm ff nn p0 d ∧ c9 = va_up c 32 (.inr (9, [.ref (gad G 33), .ref (gad G 34), .ref (gad G 35), .int (nI n), .int (nI n1), .int z, .int (hdM ff nn p0 d), .int (stM ff nn p0 d), .ref (gad G 36), .ref (gad G 37), .int (nI rn), .ref (gad G 38), .int (nI tn), .int fr, .int tto, .int tk, .int wo, .ref (gad G 39), .ref (gad G 40), .ref (gad G 41), .ref (gad G 42), .ref (gad G 43), .ref (gad G 44), .int (nI n2), .int (nI qn), .int iz, .int (bi im)]))) (fun c9 t => Hw G c9 t t.heap) (gA G)) ([.ref (gad G 32), .ref (gad G jj), .int (nI nn), .int (nI p0), .int d] : List Value).toArray s 0 0 (gA G)) (F0 m 15 ls []) := by
    intro N
    induction N with
    | zero =>
      intro i  x  hN hA ls hl
      have hin : i = nn := by omega
      rw [hin] at hA
      refine lv_iload hx hb dX11_outcomeOf_15 (lv_at hl 0 rfl) ?_
      refine lv_iload_n hx hb dX11_outcomeOf_17 rfl (lv_at hl 4 rfl) ?_
      refine lv_icmp_ge (tgt := 53) hx hb dX11_outcomeOf_18 (by decide) (fun c18 => ?_) (fun q => absurd (nI_le (by omega) (by omega)) q)
      refine lv_iload hx hb dX11_outcomeOf_53 (lv_at hl 1 rfl) ?_
      exact re_Q hx hb hr hlocks (rfl) hw hS dX11_outcomeOf_55 (⟨hA, hp6⟩)
    | succ N ih =>
      intro i  x  hN hA ls hl
      refine lv_iload hx hb dX11_outcomeOf_15 (lv_at hl 0 rfl) ?_
      refine lv_iload_n hx hb dX11_outcomeOf_17 rfl (lv_at hl 4 rfl) ?_
      refine lv_icmp_ge (tgt := 53) hx hb dX11_outcomeOf_18 (by decide) (fun q => absurd q (nI_ge (by omega) (by omega))) (fun c18 => ?_)
      refine lv_iload hx hb dX11_outcomeOf_21 (lv_at hl 1 rfl) ?_
      refine lv_aload_n hx hb dX11_outcomeOf_23 rfl (lv_at hl 6 rfl) ?_
      refine lv_aload_n hx hb dX11_outcomeOf_24 rfl (lv_at hl 5 rfl) ?_
      refine lv_iload hx hb dX11_outcomeOf_25 (lv_at hl 0 rfl) ?_
      refine cSe (rV (As := [_, _]) ⟨hx, hb, hml, hown, hts⟩ hw (k_X11_counts l o1_1 hj aj_1 hnn (by omega)) (cv_X11_counts hts tw_1071 rfl rfl ⟨Nat.le_of_ble_eq_true rfl, Nat.le_of_ble_eq_true rfl⟩) (by decide) o1_1 rfl rfl hl.1 rfl (by first | exact Nat.le_of_ble_eq_true rfl | decide) dX11_outcomeOf_27 ⟨Nat.zero_le _, Nat.zero_le _⟩) ?_
      refine zb_eq (tgt := 43) hx hb dX11_outcomeOf_30 (by decide) (fun c30 => ?_) (fun c30 => ?_)
      · refine lv_iconst (v := 0) hx hb dX11_outcomeOf_43 (by decide) ?_
        refine lv_iadd hx hb dX11_outcomeOf_44 ?_
        refine lv_istore (lv' := [(5, _), (6, _), (4, _), (3, _), (2, _), (1, _), (0, _)]) hx hb dX11_outcomeOf_45 hl (by decide) rfl (fun ls hl => ?_)
        refine lv_iinc (v := nI (i + 1)) (lv' := [(6, _), (5, _), (4, _), (3, _), (2, _), (1, _), (0, _)]) hx hb dX11_outcomeOf_47 hl (k := 1) rfl (inc1 i) (by decide) rfl (fun ls hl => ?_)
        refine lv_goto (tgt := 15) hx hb dX11_outcomeOf_50 (by decide) ?_
        exact ih (i + 1) _ (by omega) (by rw [sumU, ← hA]; simp [c30]) ls (lv_sub hl [0, 1, 2, 3, 4, 5, 6] rfl)
      · refine lv_aload_n hx hb dX11_outcomeOf_33 rfl (lv_at hl 5 rfl) ?_
        refine lv_iload hx hb dX11_outcomeOf_34 (lv_at hl 0 rfl) ?_
        refine lv_iload_n hx hb dX11_outcomeOf_36 rfl (lv_at hl 3 rfl) ?_
        refine cSe (rS (As := [_, _, _]) ⟨hx, hb, hml, hown, hts⟩ hw (k_X11_brings l hj aj_1 hnn (by omega) hp0 (hI i (by omega))) (cv_X11_brings hts tw_1075 rfl rfl ⟨Nat.le_of_ble_eq_true rfl, Nat.le_of_ble_eq_true rfl⟩) rfl hl.1 rfl (by first | exact Nat.le_of_ble_eq_true rfl | decide) dX11_outcomeOf_37 ⟨Nat.zero_le _, Nat.zero_le _⟩) ?_
        refine lv_goto (tgt := 44) hx hb dX11_outcomeOf_40 (by decide) ?_
        refine lv_iadd hx hb dX11_outcomeOf_44 ?_
        refine lv_istore (lv' := [(5, _), (6, _), (4, _), (3, _), (2, _), (1, _), (0, _)]) hx hb dX11_outcomeOf_45 hl (by decide) rfl (fun ls hl => ?_)
        refine lv_iinc (v := nI (i + 1)) (lv' := [(6, _), (5, _), (4, _), (3, _), (2, _), (1, _), (0, _)]) hx hb dX11_outcomeOf_47 hl (k := 1) rfl (inc1 i) (by decide) rfl (fun ls hl => ?_)
        refine lv_goto (tgt := 15) hx hb dX11_outcomeOf_50 (by decide) ?_
        exact ih (i + 1) _ (by omega) (by rw [sumU, ← hA]; simp [c30]) ls (lv_sub hl [0, 1, 2, 3, 4, 5, 6] rfl)
  exact L15 nn 0 0 (by omega) rfl ls (lv_sub hl [0, 1, 6, 5, 4, 3, 2] rfl)
set_option maxHeartbeats 4000000 in
set_option maxRecDepth 100000 in
theorem k_X11_isNow (l : Launch) {G : GT} {c : Nat → va_E} {n n1 rn tn n2 qn : Nat} {z hd sd fr tto tk wo iz : Int32} {im : Bool} (o1 : c 32 = .inr (9, [.ref (gad G 33), .ref (gad G 34), .ref (gad G 35), .int (nI n), .int (nI n1), .int z, .int hd, .int sd, .ref (gad G 36), .ref (gad G 37), .int (nI rn), .ref (gad G 38), .int (nI tn), .int fr, .int tto, .int tk, .int wo, .ref (gad G 39), .ref (gad G 40), .ref (gad G 41), .ref (gad G 42), .ref (gad G 43), .ref (gad G 44), .int (nI n2), .int (nI qn), .int iz, .int (bi im)])) {f : Nat → Int32} (a1 : c 33 = .inl (gI G, 132, .inl f)) (hn : n ≤ 12) {p0 : Nat} {d : Int32} (hp0 : p0 < 25600000) (hI : cI f n) : Met l yX11_isNow (wv yX11_isNow cX11_isNow 3 (some .int)) ({ frames := 5, cells := 0, slots := 0, locals := 120 } : Room) (va_Pc [.ref (gad G 32), .int (nI p0), .int d] (fun U => Hw G c U U.heap)) (va_Qi (fun r (c9 : Nat → va_E) => r = ocm f n p0 d ∧ c9 = va_up c 32 (.inr (9, [.ref (gad G 33), .ref (gad G 34), .ref (gad G 35), .int (nI n), .int (nI n1), .int z, .int (hdM f n p0 d), .int (stM f n p0 d), .ref (gad G 36), .ref (gad G 37), .int (nI rn), .ref (gad G 38), .int (nI tn), .int fr, .int tto, .int tk, .int wo, .ref (gad G 39), .ref (gad G 40), .ref (gad G 41), .ref (gad G 42), .ref (gad G 43), .ref (gad G 44), .int (nI n2), .int (nI qn), .int iz, .int (bi im)]))) (fun c9 t => Hw G c9 t t.heap) (gA G)) 0 0 (gA G) := by
  refine en (by decide +kernel) (by first | exact Nat.le_of_ble_eq_true rfl | decide) ?_
  intro p e s m below meth cd ls hx hb hr hml hown hts hlocks hnm hw hl
  have hl : lv_has ls 3 [(0, .ref (gad G 32)), (1, .int (nI p0)), (2, .int d)] := hl
  have hX : Sw G s s.heap := hw.2.2.2.2.2
  have hS : va_S (gA G) s.heap s.heap [] := va_S.rf
  obtain ⟨H, hH⟩ : ∃ wz9, wz9 = s.heap := ⟨_, rfl⟩
  obtain ⟨locs, hlocs⟩ : ∃ wz9 : List Loc, wz9 = [] := ⟨_, rfl⟩
  have hw : Hw G c s H := by rw [hH]; exact hw
  have hS : va_S (gA G) s.heap H locs := by rw [hH, hlocs]; exact hS
  suffices hgo : W p l e ({ frames := 5, cells := 0, slots := 0, locals := 120 } : Room) s m (([.ref (gad G 32), .int (nI p0), .int d] : List Value).toArray) below meth cd H locs 0 0 (MQ below (va_Qi (fun r (c9 : Nat → va_E) => r = ocm f n p0 d ∧ c9 = va_up c 32 (.inr (9, [.ref (gad G 33), .ref (gad G 34), .ref (gad G 35), .int (nI n), .int (nI n1), .int z, .int (hdM f n p0 d), .int (stM f n p0 d), .ref (gad G 36), .ref (gad G 37), .int (nI rn), .ref (gad G 38), .int (nI tn), .int fr, .int tto, .int tk, .int wo, .ref (gad G 39), .ref (gad G 40), .ref (gad G 41), .ref (gad G 42), .ref (gad G 43), .ref (gad G 44), .int (nI n2), .int (nI qn), .int iz, .int (bi im)]))) (fun c9 t => Hw G c9 t t.heap) (gA G)) ([.ref (gad G 32), .int (nI p0), .int d] : List Value).toArray s 0 0 (gA G)) (F0 m 0 ls []) by rw [hH, hlocs] at hgo; exact hgo
  refine lv_aload_n hx hb dX11_isNow_0 rfl (lv_at hl 0 rfl) ?_
  refine lv_aload_n hx hb dX11_isNow_1 rfl (lv_at hl 0 rfl) ?_
  refine w_get (C := RX11) (T := TX11) (N := 27) 0 hx hb hts inX11 hown hw (by decide) o1 rfl (by decide) (hts _ tw_885) rfl dX11_isNow_2 ?_
  refine lv_aload_n hx hb dX11_isNow_5 rfl (lv_at hl 0 rfl) ?_
  refine w_get (C := RX11) (T := TX11) (N := 27) 3 hx hb hts inX11 hown hw (by decide) o1 rfl (by decide) (hts _ tw_888) rfl dX11_isNow_6 ?_
  refine lv_iload_n hx hb dX11_isNow_9 rfl (lv_at hl 1 rfl) ?_
  refine lv_iload_n hx hb dX11_isNow_10 rfl (lv_at hl 2 rfl) ?_
  refine cQi (rV (As := [_, _, _, _]) ⟨hx, hb, hml, hown, hts⟩ hw (k_X11_outcomeOf l o1 (by decide) a1 hn hp0 hI) (cv_X11_outcomeOf hts tw_1057 rfl rfl ⟨Nat.le_of_ble_eq_true rfl, Nat.le_of_ble_eq_true rfl⟩) (by decide) o1 rfl rfl hl.1 rfl (by first | exact Nat.le_of_ble_eq_true rfl | decide) dX11_isNow_11 ⟨Nat.zero_le _, Nat.zero_le _⟩) hw hS (fun r11 w1 H locs hp11 hw hS => ?_)
  exact re_Q hx hb hr hlocks (rfl) hw hS dX11_isNow_14 (hp11)
set_option maxHeartbeats 4000000 in
set_option maxRecDepth 100000 in
theorem k_X11_outcome (l : Launch) {G : GT} {c : Nat → va_E} {n n1 rn tn n2 qn : Nat} {z hd sd fr tto tk wo iz : Int32} {im : Bool} (o1 : c 32 = .inr (9, [.ref (gad G 33), .ref (gad G 34), .ref (gad G 35), .int (nI n), .int (nI n1), .int z, .int hd, .int sd, .ref (gad G 36), .ref (gad G 37), .int (nI rn), .ref (gad G 38), .int (nI tn), .int fr, .int tto, .int tk, .int wo, .ref (gad G 39), .ref (gad G 40), .ref (gad G 41), .ref (gad G 42), .ref (gad G 43), .ref (gad G 44), .int (nI n2), .int (nI qn), .int iz, .int (bi im)])) {f : Nat → Int32} (a1 : c 33 = .inl (gI G, 132, .inl f)) (hn : n ≤ 12) {a d : Int32} (hI : cI f n) : Met l yX11_outcome (wv yX11_outcome cX11_outcome 3 (some .int)) ({ frames := 6, cells := 0, slots := 0, locals := 142 } : Room) (va_Pc [.ref (gad G 32), .int a, .int d] (fun U => Hw G c U U.heap)) (va_Qi (fun r (c9 : Nat → va_E) => r = spOutcome f n a d ∧ ∃ h8 s8 : Int32, c9 = va_up c 32 (.inr (9, [.ref (gad G 33), .ref (gad G 34), .ref (gad G 35), .int (nI n), .int (nI n1), .int z, .int (h8), .int (s8), .ref (gad G 36), .ref (gad G 37), .int (nI rn), .ref (gad G 38), .int (nI tn), .int fr, .int tto, .int tk, .int wo, .ref (gad G 39), .ref (gad G 40), .ref (gad G 41), .ref (gad G 42), .ref (gad G 43), .ref (gad G 44), .int (nI n2), .int (nI qn), .int iz, .int (bi im)]))) (fun c9 t => Hw G c9 t t.heap) (gA G)) 0 0 (gA G) := by
  refine en (by decide +kernel) (by first | exact Nat.le_of_ble_eq_true rfl | decide) ?_
  intro p e s m below meth cd ls hx hb hr hml hown hts hlocks hnm hw hl
  have hl : lv_has ls 3 [(0, .ref (gad G 32)), (1, .int a), (2, .int d)] := hl
  have hX : Sw G s s.heap := hw.2.2.2.2.2
  have hS : va_S (gA G) s.heap s.heap [] := va_S.rf
  obtain ⟨H, hH⟩ : ∃ wz9, wz9 = s.heap := ⟨_, rfl⟩
  obtain ⟨locs, hlocs⟩ : ∃ wz9 : List Loc, wz9 = [] := ⟨_, rfl⟩
  have hw : Hw G c s H := by rw [hH]; exact hw
  have hS : va_S (gA G) s.heap H locs := by rw [hH, hlocs]; exact hS
  suffices hgo : W p l e ({ frames := 6, cells := 0, slots := 0, locals := 142 } : Room) s m (([.ref (gad G 32), .int a, .int d] : List Value).toArray) below meth cd H locs 0 0 (MQ below (va_Qi (fun r (c9 : Nat → va_E) => r = spOutcome f n a d ∧ ∃ h8 s8 : Int32, c9 = va_up c 32 (.inr (9, [.ref (gad G 33), .ref (gad G 34), .ref (gad G 35), .int (nI n), .int (nI n1), .int z, .int (h8), .int (s8), .ref (gad G 36), .ref (gad G 37), .int (nI rn), .ref (gad G 38), .int (nI tn), .int fr, .int tto, .int tk, .int wo, .ref (gad G 39), .ref (gad G 40), .ref (gad G 41), .ref (gad G 42), .ref (gad G 43), .ref (gad G 44), .int (nI n2), .int (nI qn), .int iz, .int (bi im)]))) (fun c9 t => Hw G c9 t t.heap) (gA G)) ([.ref (gad G 32), .int a, .int d] : List Value).toArray s 0 0 (gA G)) (F0 m 0 ls []) by rw [hH, hlocs] at hgo; exact hgo
  refine lv_iload_n hx hb dX11_outcome_0 rfl (lv_at hl 1 rfl) ?_
  refine lv_iload_n hx hb dX11_outcome_1 rfl (lv_at hl 2 rfl) ?_
  refine cSe (rST (As := [_, _]) ⟨hx, hb, hml, hown, hts⟩ (k_X11_isAsked l ) (cv_X11_isAsked hts tw_1047 rfl rfl ⟨Nat.le_of_ble_eq_true rfl, Nat.le_of_ble_eq_true rfl⟩) rfl hl.1 rfl (by first | exact Nat.le_of_ble_eq_true rfl | decide) dX11_outcome_2 ⟨Nat.zero_le _, Nat.zero_le _⟩) ?_
  refine zb_eq (tgt := 17) hx hb dX11_outcome_5 (by decide) (fun c5 => ?_) (fun c5 => ?_)
  · refine lv_bipush (v := (-2)) hx hb dX11_outcome_17 (by decide) ?_
    exact re_Q hx hb hr hlocks (rfl) hw hS dX11_outcome_19 (⟨by rw [spOutcome, c5]; rfl, ⟨hd, sd, (up_id o1).symm⟩⟩)
  · obtain ⟨p0, hp0, rfl⟩ := isP_t (Bool.and_eq_true_iff.mp c5).1
    refine lv_aload_n hx hb dX11_outcome_8 rfl (lv_at hl 0 rfl) ?_
    refine lv_iload_n hx hb dX11_outcome_9 rfl (lv_at hl 1 rfl) ?_
    refine lv_iload_n hx hb dX11_outcome_10 rfl (lv_at hl 2 rfl) ?_
    refine cQi (rV (As := [_, _]) ⟨hx, hb, hml, hown, hts⟩ hw (k_X11_isNow l o1 a1 hn hp0 hI) (cv_X11_isNow hts tw_1053 rfl rfl ⟨Nat.le_of_ble_eq_true rfl, Nat.le_of_ble_eq_true rfl⟩) (by decide) o1 rfl rfl hl.1 rfl (by first | exact Nat.le_of_ble_eq_true rfl | decide) dX11_outcome_11 ⟨Nat.zero_le _, Nat.zero_le _⟩) hw hS (fun r11 w1 H locs hp11 hw hS => ?_)
    refine lv_goto (tgt := 19) hx hb dX11_outcome_14 (by decide) ?_
    exact re_Q hx hb hr hlocks (rfl) hw hS dX11_outcome_19 (⟨by rw [hp11.1, spOutcome, c5, pN_nI hp0]; rfl, _, _, hp11.2⟩)
set_option maxHeartbeats 4000000 in
set_option maxRecDepth 100000 in
theorem k_X11_touchedBy (l : Launch) {G : GT} {c : Nat → va_E} {n n1 rn tn n2 qn : Nat} {z hd sd fr tto tk wo iz : Int32} {im : Bool} (o1 : c 32 = .inr (9, [.ref (gad G 33), .ref (gad G 34), .ref (gad G 35), .int (nI n), .int (nI n1), .int z, .int hd, .int sd, .ref (gad G 36), .ref (gad G 37), .int (nI rn), .ref (gad G 38), .int (nI tn), .int fr, .int tto, .int tk, .int wo, .ref (gad G 39), .ref (gad G 40), .ref (gad G 41), .ref (gad G 42), .ref (gad G 43), .ref (gad G 44), .int (nI n2), .int (nI qn), .int iz, .int (bi im)])) {f : Nat → Int32} (a1 : c 33 = .inl (gI G, 132, .inl f)) (hn : n ≤ 12) {f1 : Nat → Int32} (a2 : c 34 = .inl (gI G, 132, .inl f1)) (hn1 : n1 ≤ 12) {p0 : Nat} {d : Int32} (hp0 : p0 < 25600000) (hI : cI f n) (hI1 : cI f1 n1) : Met l yX11_touchedBy (wv yX11_touchedBy cX11_touchedBy 3 (some .int)) ({ frames := 6, cells := 0, slots := 0, locals := 142 } : Room) (va_Pc [.ref (gad G 32), .int (nI p0), .int d] (fun U => Hw G c U U.heap)) (va_Qi (fun r (c9 : Nat → va_E) => r = ocm f n p0 d - ocm f1 n1 p0 d ∧ c9 = va_up c 32 (.inr (9, [.ref (gad G 33), .ref (gad G 34), .ref (gad G 35), .int (nI n), .int (nI n1), .int z, .int (hdM f1 n1 p0 d), .int (stM f1 n1 p0 d), .ref (gad G 36), .ref (gad G 37), .int (nI rn), .ref (gad G 38), .int (nI tn), .int fr, .int tto, .int tk, .int wo, .ref (gad G 39), .ref (gad G 40), .ref (gad G 41), .ref (gad G 42), .ref (gad G 43), .ref (gad G 44), .int (nI n2), .int (nI qn), .int iz, .int (bi im)]))) (fun c9 t => Hw G c9 t t.heap) (gA G)) 0 0 (gA G) := by
  refine en (by decide +kernel) (by first | exact Nat.le_of_ble_eq_true rfl | decide) ?_
  intro p e s m below meth cd ls hx hb hr hml hown hts hlocks hnm hw hl
  have hl : lv_has ls 3 [(0, .ref (gad G 32)), (1, .int (nI p0)), (2, .int d)] := hl
  have hX : Sw G s s.heap := hw.2.2.2.2.2
  have hS : va_S (gA G) s.heap s.heap [] := va_S.rf
  obtain ⟨H, hH⟩ : ∃ wz9, wz9 = s.heap := ⟨_, rfl⟩
  obtain ⟨locs, hlocs⟩ : ∃ wz9 : List Loc, wz9 = [] := ⟨_, rfl⟩
  have hw : Hw G c s H := by rw [hH]; exact hw
  have hS : va_S (gA G) s.heap H locs := by rw [hH, hlocs]; exact hS
  suffices hgo : W p l e ({ frames := 6, cells := 0, slots := 0, locals := 142 } : Room) s m (([.ref (gad G 32), .int (nI p0), .int d] : List Value).toArray) below meth cd H locs 0 0 (MQ below (va_Qi (fun r (c9 : Nat → va_E) => r = ocm f n p0 d - ocm f1 n1 p0 d ∧ c9 = va_up c 32 (.inr (9, [.ref (gad G 33), .ref (gad G 34), .ref (gad G 35), .int (nI n), .int (nI n1), .int z, .int (hdM f1 n1 p0 d), .int (stM f1 n1 p0 d), .ref (gad G 36), .ref (gad G 37), .int (nI rn), .ref (gad G 38), .int (nI tn), .int fr, .int tto, .int tk, .int wo, .ref (gad G 39), .ref (gad G 40), .ref (gad G 41), .ref (gad G 42), .ref (gad G 43), .ref (gad G 44), .int (nI n2), .int (nI qn), .int iz, .int (bi im)]))) (fun c9 t => Hw G c9 t t.heap) (gA G)) ([.ref (gad G 32), .int (nI p0), .int d] : List Value).toArray s 0 0 (gA G)) (F0 m 0 ls []) by rw [hH, hlocs] at hgo; exact hgo
  refine lv_aload_n hx hb dX11_touchedBy_0 rfl (lv_at hl 0 rfl) ?_
  refine lv_iload_n hx hb dX11_touchedBy_1 rfl (lv_at hl 1 rfl) ?_
  refine lv_iload_n hx hb dX11_touchedBy_2 rfl (lv_at hl 2 rfl) ?_
  refine cQi (rV (As := [_, _]) ⟨hx, hb, hml, hown, hts⟩ hw (k_X11_isNow l o1 a1 hn hp0 hI) (cv_X11_isNow hts tw_1053 rfl rfl ⟨Nat.le_of_ble_eq_true rfl, Nat.le_of_ble_eq_true rfl⟩) (by decide) o1 rfl rfl hl.1 rfl (by first | exact Nat.le_of_ble_eq_true rfl | decide) dX11_touchedBy_3 ⟨Nat.zero_le _, Nat.zero_le _⟩) hw hS (fun r3 w1 H locs hp3 hw hS => ?_)
  obtain ⟨er3, ec3⟩ := hp3
  subst er3
  have o1_1 : w1 32 = .inr (9, [.ref (gad G 33), .ref (gad G 34), .ref (gad G 35), .int (nI n), .int (nI n1), .int z, .int (hdM f n p0 d), .int (stM f n p0 d), .ref (gad G 36), .ref (gad G 37), .int (nI rn), .ref (gad G 38), .int (nI tn), .int fr, .int tto, .int tk, .int wo, .ref (gad G 39), .ref (gad G 40), .ref (gad G 41), .ref (gad G 42), .ref (gad G 43), .ref (gad G 44), .int (nI n2), .int (nI qn), .int iz, .int (bi im)]) := by rw [ec3]; exact vu_s
  have a1_1 : w1 33 = .inl (gI G, 132, .inl f) := by rw [ec3]; exact (vu_e (by decide) a1)
  have a2_1 : w1 34 = .inl (gI G, 132, .inl f1) := by rw [ec3]; exact (vu_e (by decide) a2)
  refine lv_aload_n hx hb dX11_touchedBy_6 rfl (lv_at hl 0 rfl) ?_
  refine lv_aload_n hx hb dX11_touchedBy_7 rfl (lv_at hl 0 rfl) ?_
  refine w_get (C := RX11) (T := TX11) (N := 27) 1 hx hb hts inX11 hown hw (by decide) o1_1 rfl (by decide) (hts _ tw_886) rfl dX11_touchedBy_8 ?_
  refine lv_aload_n hx hb dX11_touchedBy_11 rfl (lv_at hl 0 rfl) ?_
  refine w_get (C := RX11) (T := TX11) (N := 27) 4 hx hb hts inX11 hown hw (by decide) o1_1 rfl (by decide) (hts _ tw_889) rfl dX11_touchedBy_12 ?_
  refine lv_iload_n hx hb dX11_touchedBy_15 rfl (lv_at hl 1 rfl) ?_
  refine lv_iload_n hx hb dX11_touchedBy_16 rfl (lv_at hl 2 rfl) ?_
  refine cQi (rV (As := [_, _, _, _]) ⟨hx, hb, hml, hown, hts⟩ hw (k_X11_outcomeOf l o1_1 (by decide) a2_1 hn1 hp0 hI1) (cv_X11_outcomeOf hts tw_1057 rfl rfl ⟨Nat.le_of_ble_eq_true rfl, Nat.le_of_ble_eq_true rfl⟩) (by decide) o1_1 rfl rfl hl.1 rfl (by first | exact Nat.le_of_ble_eq_true rfl | decide) dX11_touchedBy_17 ⟨Nat.zero_le _, Nat.zero_le _⟩) hw hS (fun r17 w2 H locs hp17 hw hS => ?_)
  obtain ⟨er17, ec17⟩ := hp17
  subst er17
  refine lv_isub hx hb dX11_touchedBy_20 ?_
  exact re_Q hx hb hr hlocks (rfl) hw hS dX11_touchedBy_21 (⟨rfl, by rw [ec17, ec3, up_up]⟩)
set_option maxHeartbeats 4000000 in
set_option maxRecDepth 100000 in
theorem k_X11_touched (l : Launch) {G : GT} {c : Nat → va_E} {n n1 rn tn n2 qn : Nat} {z hd sd fr tto tk wo iz : Int32} {im : Bool} (o1 : c 32 = .inr (9, [.ref (gad G 33), .ref (gad G 34), .ref (gad G 35), .int (nI n), .int (nI n1), .int z, .int hd, .int sd, .ref (gad G 36), .ref (gad G 37), .int (nI rn), .ref (gad G 38), .int (nI tn), .int fr, .int tto, .int tk, .int wo, .ref (gad G 39), .ref (gad G 40), .ref (gad G 41), .ref (gad G 42), .ref (gad G 43), .ref (gad G 44), .int (nI n2), .int (nI qn), .int iz, .int (bi im)])) {f : Nat → Int32} (a1 : c 33 = .inl (gI G, 132, .inl f)) (hn : n ≤ 12) {f1 : Nat → Int32} (a2 : c 34 = .inl (gI G, 132, .inl f1)) (hn1 : n1 ≤ 12) {a d : Int32} (hI : cI f n) (hI1 : cI f1 n1) : Met l yX11_touched (wv yX11_touched cX11_touched 3 (some .int)) ({ frames := 7, cells := 0, slots := 0, locals := 164 } : Room) (va_Pc [.ref (gad G 32), .int a, .int d] (fun U => Hw G c U U.heap)) (va_Qi (fun r (c9 : Nat → va_E) => r = spTouched f n f1 n1 a d ∧ ∃ h8 s8 : Int32, c9 = va_up c 32 (.inr (9, [.ref (gad G 33), .ref (gad G 34), .ref (gad G 35), .int (nI n), .int (nI n1), .int z, .int (h8), .int (s8), .ref (gad G 36), .ref (gad G 37), .int (nI rn), .ref (gad G 38), .int (nI tn), .int fr, .int tto, .int tk, .int wo, .ref (gad G 39), .ref (gad G 40), .ref (gad G 41), .ref (gad G 42), .ref (gad G 43), .ref (gad G 44), .int (nI n2), .int (nI qn), .int iz, .int (bi im)]))) (fun c9 t => Hw G c9 t t.heap) (gA G)) 0 0 (gA G) := by
  refine en (by decide +kernel) (by first | exact Nat.le_of_ble_eq_true rfl | decide) ?_
  intro p e s m below meth cd ls hx hb hr hml hown hts hlocks hnm hw hl
  have hl : lv_has ls 3 [(0, .ref (gad G 32)), (1, .int a), (2, .int d)] := hl
  have hX : Sw G s s.heap := hw.2.2.2.2.2
  have hS : va_S (gA G) s.heap s.heap [] := va_S.rf
  obtain ⟨H, hH⟩ : ∃ wz9, wz9 = s.heap := ⟨_, rfl⟩
  obtain ⟨locs, hlocs⟩ : ∃ wz9 : List Loc, wz9 = [] := ⟨_, rfl⟩
  have hw : Hw G c s H := by rw [hH]; exact hw
  have hS : va_S (gA G) s.heap H locs := by rw [hH, hlocs]; exact hS
  suffices hgo : W p l e ({ frames := 7, cells := 0, slots := 0, locals := 164 } : Room) s m (([.ref (gad G 32), .int a, .int d] : List Value).toArray) below meth cd H locs 0 0 (MQ below (va_Qi (fun r (c9 : Nat → va_E) => r = spTouched f n f1 n1 a d ∧ ∃ h8 s8 : Int32, c9 = va_up c 32 (.inr (9, [.ref (gad G 33), .ref (gad G 34), .ref (gad G 35), .int (nI n), .int (nI n1), .int z, .int (h8), .int (s8), .ref (gad G 36), .ref (gad G 37), .int (nI rn), .ref (gad G 38), .int (nI tn), .int fr, .int tto, .int tk, .int wo, .ref (gad G 39), .ref (gad G 40), .ref (gad G 41), .ref (gad G 42), .ref (gad G 43), .ref (gad G 44), .int (nI n2), .int (nI qn), .int iz, .int (bi im)]))) (fun c9 t => Hw G c9 t t.heap) (gA G)) ([.ref (gad G 32), .int a, .int d] : List Value).toArray s 0 0 (gA G)) (F0 m 0 ls []) by rw [hH, hlocs] at hgo; exact hgo
  refine lv_iload_n hx hb dX11_touched_0 rfl (lv_at hl 1 rfl) ?_
  refine lv_iload_n hx hb dX11_touched_1 rfl (lv_at hl 2 rfl) ?_
  refine cSe (rST (As := [_, _]) ⟨hx, hb, hml, hown, hts⟩ (k_X11_isAsked l ) (cv_X11_isAsked hts tw_1047 rfl rfl ⟨Nat.le_of_ble_eq_true rfl, Nat.le_of_ble_eq_true rfl⟩) rfl hl.1 rfl (by first | exact Nat.le_of_ble_eq_true rfl | decide) dX11_touched_2 ⟨Nat.zero_le _, Nat.zero_le _⟩) ?_
  refine zb_eq (tgt := 17) hx hb dX11_touched_5 (by decide) (fun c5 => ?_) (fun c5 => ?_)
  · refine lv_bipush (v := (-2)) hx hb dX11_touched_17 (by decide) ?_
    exact re_Q hx hb hr hlocks (rfl) hw hS dX11_touched_19 (⟨by rw [spTouched, c5]; rfl, ⟨hd, sd, (up_id o1).symm⟩⟩)
  · obtain ⟨p0, hp0, rfl⟩ := isP_t (Bool.and_eq_true_iff.mp c5).1
    refine lv_aload_n hx hb dX11_touched_8 rfl (lv_at hl 0 rfl) ?_
    refine lv_iload_n hx hb dX11_touched_9 rfl (lv_at hl 1 rfl) ?_
    refine lv_iload_n hx hb dX11_touched_10 rfl (lv_at hl 2 rfl) ?_
    refine cQi (rV (As := [_, _]) ⟨hx, hb, hml, hown, hts⟩ hw (k_X11_touchedBy l o1 a1 hn a2 hn1 hp0 hI hI1) (cv_X11_touchedBy hts tw_1166 rfl rfl ⟨Nat.le_of_ble_eq_true rfl, Nat.le_of_ble_eq_true rfl⟩) (by decide) o1 rfl rfl hl.1 rfl (by first | exact Nat.le_of_ble_eq_true rfl | decide) dX11_touched_11 ⟨Nat.zero_le _, Nat.zero_le _⟩) hw hS (fun r11 w1 H locs hp11 hw hS => ?_)
    refine lv_goto (tgt := 19) hx hb dX11_touched_14 (by decide) ?_
    exact re_Q hx hb hr hlocks (rfl) hw hS dX11_touched_19 (⟨by rw [hp11.1, spTouched, c5, pN_nI hp0]; rfl, _, _, hp11.2⟩)
set_option maxHeartbeats 4000000 in
set_option maxRecDepth 100000 in
theorem k_X11_reason (l : Launch) {G : GT} {c : Nat → va_E} {n n1 rn tn n2 qn : Nat} {z hd sd fr tto tk wo iz : Int32} {im : Bool} (o1 : c 32 = .inr (9, [.ref (gad G 33), .ref (gad G 34), .ref (gad G 35), .int (nI n), .int (nI n1), .int z, .int hd, .int sd, .ref (gad G 36), .ref (gad G 37), .int (nI rn), .ref (gad G 38), .int (nI tn), .int fr, .int tto, .int tk, .int wo, .ref (gad G 39), .ref (gad G 40), .ref (gad G 41), .ref (gad G 42), .ref (gad G 43), .ref (gad G 44), .int (nI n2), .int (nI qn), .int iz, .int (bi im)])) {f : Nat → Int32} (a1 : c 33 = .inl (gI G, 132, .inl f)) (hn : n ≤ 12) {a d : Int32} (hI : cI f n) : Met l yX11_reason (wv yX11_reason cX11_reason 5 (some .int)) ({ frames := 4, cells := 0, slots := 0, locals := 94 } : Room) (va_Pc [.ref (gad G 32), .int a, .int d] (fun U => Hw G c U U.heap)) (va_Qi (fun r (c9 : Nat → va_E) => r = spReason f n a d ∧ ∃ h8 s8 : Int32, c9 = va_up c 32 (.inr (9, [.ref (gad G 33), .ref (gad G 34), .ref (gad G 35), .int (nI n), .int (nI n1), .int z, .int (h8), .int (s8), .ref (gad G 36), .ref (gad G 37), .int (nI rn), .ref (gad G 38), .int (nI tn), .int fr, .int tto, .int tk, .int wo, .ref (gad G 39), .ref (gad G 40), .ref (gad G 41), .ref (gad G 42), .ref (gad G 43), .ref (gad G 44), .int (nI n2), .int (nI qn), .int iz, .int (bi im)]))) (fun c9 t => Hw G c9 t t.heap) (gA G)) 0 0 (gA G) := by
  refine en (by decide +kernel) (by first | exact Nat.le_of_ble_eq_true rfl | decide) ?_
  intro p e s m below meth cd ls hx hb hr hml hown hts hlocks hnm hw hl
  have hl : lv_has ls 5 [(0, .ref (gad G 32)), (1, .int a), (2, .int d)] := hl
  have hX : Sw G s s.heap := hw.2.2.2.2.2
  have hS : va_S (gA G) s.heap s.heap [] := va_S.rf
  obtain ⟨H, hH⟩ : ∃ wz9, wz9 = s.heap := ⟨_, rfl⟩
  obtain ⟨locs, hlocs⟩ : ∃ wz9 : List Loc, wz9 = [] := ⟨_, rfl⟩
  have hw : Hw G c s H := by rw [hH]; exact hw
  have hS : va_S (gA G) s.heap H locs := by rw [hH, hlocs]; exact hS
  suffices hgo : W p l e ({ frames := 4, cells := 0, slots := 0, locals := 94 } : Room) s m (([.ref (gad G 32), .int a, .int d] : List Value).toArray) below meth cd H locs 0 0 (MQ below (va_Qi (fun r (c9 : Nat → va_E) => r = spReason f n a d ∧ ∃ h8 s8 : Int32, c9 = va_up c 32 (.inr (9, [.ref (gad G 33), .ref (gad G 34), .ref (gad G 35), .int (nI n), .int (nI n1), .int z, .int (h8), .int (s8), .ref (gad G 36), .ref (gad G 37), .int (nI rn), .ref (gad G 38), .int (nI tn), .int fr, .int tto, .int tk, .int wo, .ref (gad G 39), .ref (gad G 40), .ref (gad G 41), .ref (gad G 42), .ref (gad G 43), .ref (gad G 44), .int (nI n2), .int (nI qn), .int iz, .int (bi im)]))) (fun c9 t => Hw G c9 t t.heap) (gA G)) ([.ref (gad G 32), .int a, .int d] : List Value).toArray s 0 0 (gA G)) (F0 m 0 ls []) by rw [hH, hlocs] at hgo; exact hgo
  refine lv_iload_n hx hb dX11_reason_0 rfl (lv_at hl 1 rfl) ?_
  refine lv_iload_n hx hb dX11_reason_1 rfl (lv_at hl 2 rfl) ?_
  refine cSe (rST (As := [_, _]) ⟨hx, hb, hml, hown, hts⟩ (k_X11_isAsked l ) (cv_X11_isAsked hts tw_1047 rfl rfl ⟨Nat.le_of_ble_eq_true rfl, Nat.le_of_ble_eq_true rfl⟩) rfl hl.1 rfl (by first | exact Nat.le_of_ble_eq_true rfl | decide) dX11_reason_2 ⟨Nat.zero_le _, Nat.zero_le _⟩) ?_
  refine zb_ne (tgt := 11) hx hb dX11_reason_5 (by decide) (fun c5 => ?_) (fun c5 => ?_)
  · obtain ⟨p0, hp0, rfl⟩ := isP_t (Bool.and_eq_true_iff.mp c5).1
    refine lv_aload_n hx hb dX11_reason_11 rfl (lv_at hl 0 rfl) ?_
    refine lv_aload_n hx hb dX11_reason_12 rfl (lv_at hl 0 rfl) ?_
    refine w_get (C := RX11) (T := TX11) (N := 27) 0 hx hb hts inX11 hown hw (by decide) o1 rfl (by decide) (hts _ tw_885) rfl dX11_reason_13 ?_
    refine lv_aload_n hx hb dX11_reason_16 rfl (lv_at hl 0 rfl) ?_
    refine w_get (C := RX11) (T := TX11) (N := 27) 3 hx hb hts inX11 hown hw (by decide) o1 rfl (by decide) (hts _ tw_888) rfl dX11_reason_17 ?_
    refine lv_iload_n hx hb dX11_reason_20 rfl (lv_at hl 1 rfl) ?_
    refine lv_iload_n hx hb dX11_reason_21 rfl (lv_at hl 2 rfl) ?_
    refine cQv (rV (As := [_, _, _, _]) ⟨hx, hb, hml, hown, hts⟩ hw (k_X11_looks l o1 (by decide) a1 hn hp0 hI) (cv_X11_looks hts tw_1061 rfl rfl ⟨Nat.le_of_ble_eq_true rfl, Nat.le_of_ble_eq_true rfl⟩) (by decide) o1 rfl rfl hl.1 rfl (by first | exact Nat.le_of_ble_eq_true rfl | decide) dX11_reason_22 ⟨Nat.zero_le _, Nat.zero_le _⟩) hw hS (fun w1 H locs hp22 hw hS => ?_)
    have o1_1 : w1 32 = .inr (9, [.ref (gad G 33), .ref (gad G 34), .ref (gad G 35), .int (nI n), .int (nI n1), .int z, .int (hdM f n p0 d), .int (stM f n p0 d), .ref (gad G 36), .ref (gad G 37), .int (nI rn), .ref (gad G 38), .int (nI tn), .int fr, .int tto, .int tk, .int wo, .ref (gad G 39), .ref (gad G 40), .ref (gad G 41), .ref (gad G 42), .ref (gad G 43), .ref (gad G 44), .int (nI n2), .int (nI qn), .int iz, .int (bi im)]) := by rw [hp22]; exact vu_s
    have a1_1 : w1 33 = .inl (gI G, 132, .inl f) := by rw [hp22]; exact (vu_e (by decide) a1)
    refine lv_iconst (v := 0) hx hb dX11_reason_25 (by decide) ?_
    refine lv_istore_n (lv' := [(3, _), (0, _), (1, _), (2, _)]) hx hb dX11_reason_26 rfl hl (by decide) rfl (fun ls hl => ?_)
    refine lv_iconst (v := 0) hx hb dX11_reason_27 (by decide) ?_
    refine lv_istore (lv' := [(4, _), (3, _), (0, _), (1, _), (2, _)]) hx hb dX11_reason_28 hl (by decide) rfl (fun ls hl => ?_)
    have L30 : ∀ (N : Nat) (i : Nat) (x : Int32), (i + N = n) → (x = mskU (cnM f n p0 d) i) → ∀ ls : Array Slot, lv_has ls 5 [(4, .int (nI i)), (3, .int x), (2, .int d), (1, .int (nI p0)), (0, .ref (gad G 32))] → W p l e ({ frames := 4, cells := 0, slots := 0, locals := 94 } : Room) s m (([.ref (gad G 32), .int (nI p0), .int d] : List Value).toArray) below meth cd H locs 0 0 (MQ below (va_Qi (fun r (c9 : Nat → va_E) => r = spReason f n (nI p0) d ∧ ∃ h8 s8 : Int32, c9 = va_up c 32 (.inr (9, [.ref (gad G 33), .ref (gad G 34), .ref (gad G 35), .int (nI n), .int (nI n1), .int z, .int (h8), .int (s8), .ref (gad G 36), .ref (gad G 37), .int (nI rn), .ref (gad G 38), .int (nI tn), .int fr, .int tto, .int tk, .int wo, .ref (gad G 39), .ref (gad G 40), .ref (gad G 41), .ref (gad G 42), .ref (gad G 43), .ref (gad G 44), .int (nI n2), .int (nI qn), .int iz, .int (bi im)]))) (fun c9 t => Hw G c9 t t.heap) (gA G)) ([.ref (gad G 32), .int (nI p0), .int d] : List Value).toArray s 0 0 (gA G)) (F0 m 30 ls []) := by
      intro N
      induction N with
      | zero =>
        intro i  x  hN hA ls hl
        have hin : i = n := by omega
        rw [hin] at hA
        refine lv_iload hx hb dX11_reason_30 (lv_at hl 0 rfl) ?_
        refine lv_aload_n hx hb dX11_reason_32 rfl (lv_at hl 4 rfl) ?_
        refine w_get (C := RX11) (T := TX11) (N := 27) 3 hx hb hts inX11 hown hw (by decide) o1_1 rfl (by decide) (hts _ tw_888) rfl dX11_reason_33 ?_
        refine lv_icmp_ge (tgt := 69) hx hb dX11_reason_36 (by decide) (fun c36 => ?_) (fun q => absurd (nI_le (by omega) (by omega)) q)
        refine lv_iload_n hx hb dX11_reason_69 rfl (lv_at hl 1 rfl) ?_
        exact re_Q hx hb hr hlocks (rfl) hw hS dX11_reason_70 (⟨by rw [hA, spReason, c5, pN_nI hp0]; rfl, _, _, hp22⟩)
      | succ N ih =>
        intro i  x  hN hA ls hl
        refine lv_iload hx hb dX11_reason_30 (lv_at hl 0 rfl) ?_
        refine lv_aload_n hx hb dX11_reason_32 rfl (lv_at hl 4 rfl) ?_
        refine w_get (C := RX11) (T := TX11) (N := 27) 3 hx hb hts inX11 hown hw (by decide) o1_1 rfl (by decide) (hts _ tw_888) rfl dX11_reason_33 ?_
        refine lv_icmp_ge (tgt := 69) hx hb dX11_reason_36 (by decide) (fun q => absurd q (nI_ge (by omega) (by omega))) (fun c36 => ?_)
        refine lv_iload_n hx hb dX11_reason_39 rfl (lv_at hl 1 rfl) ?_
        refine lv_aload_n hx hb dX11_reason_40 rfl (lv_at hl 4 rfl) ?_
        refine lv_aload_n hx hb dX11_reason_41 rfl (lv_at hl 4 rfl) ?_
        refine w_get (C := RX11) (T := TX11) (N := 27) 0 hx hb hts inX11 hown hw (by decide) o1_1 rfl (by decide) (hts _ tw_885) rfl dX11_reason_42 ?_
        refine lv_iload hx hb dX11_reason_45 (lv_at hl 0 rfl) ?_
        refine cSe (rV (As := [_, _]) ⟨hx, hb, hml, hown, hts⟩ hw (k_X11_counts l o1_1 (by decide) a1_1 hn (by omega)) (cv_X11_counts hts tw_1071 rfl rfl ⟨Nat.le_of_ble_eq_true rfl, Nat.le_of_ble_eq_true rfl⟩) (by decide) o1_1 rfl rfl hl.1 rfl (by first | exact Nat.le_of_ble_eq_true rfl | decide) dX11_reason_47 ⟨Nat.zero_le _, Nat.zero_le _⟩) ?_
        refine zb_eq (tgt := 60) hx hb dX11_reason_50 (by decide) (fun c50 => ?_) (fun c50 => ?_)
        · refine lv_iconst (v := 0) hx hb dX11_reason_60 (by decide) ?_
          refine lv_ior hx hb dX11_reason_61 ?_
          refine lv_istore_n (lv' := [(3, _), (4, _), (2, _), (1, _), (0, _)]) hx hb dX11_reason_62 rfl hl (by decide) rfl (fun ls hl => ?_)
          refine lv_iinc (v := nI (i + 1)) (lv' := [(4, _), (3, _), (2, _), (1, _), (0, _)]) hx hb dX11_reason_63 hl (k := 1) rfl (inc1 i) (by decide) rfl (fun ls hl => ?_)
          refine lv_goto (tgt := 30) hx hb dX11_reason_66 (by decide) ?_
          exact ih (i + 1) _ (by omega) (by rw [mskU, ← hA]; unfold cnM; simp [c50, or0]) ls (lv_sub hl [0, 1, 2, 3, 4] rfl)
        · refine lv_iconst (v := 1) hx hb dX11_reason_53 (by decide) ?_
          refine lv_iload hx hb dX11_reason_54 (lv_at hl 0 rfl) ?_
          refine lv_ishl hx hb dX11_reason_56 ?_
          refine lv_goto (tgt := 61) hx hb dX11_reason_57 (by decide) ?_
          refine lv_ior hx hb dX11_reason_61 ?_
          refine lv_istore_n (lv' := [(3, _), (4, _), (2, _), (1, _), (0, _)]) hx hb dX11_reason_62 rfl hl (by decide) rfl (fun ls hl => ?_)
          refine lv_iinc (v := nI (i + 1)) (lv' := [(4, _), (3, _), (2, _), (1, _), (0, _)]) hx hb dX11_reason_63 hl (k := 1) rfl (inc1 i) (by decide) rfl (fun ls hl => ?_)
          refine lv_goto (tgt := 30) hx hb dX11_reason_66 (by decide) ?_
          exact ih (i + 1) _ (by omega) (by rw [mskU, ← hA]; unfold cnM; simp [c50, or0]) ls (lv_sub hl [0, 1, 2, 3, 4] rfl)
    exact L30 n 0 0 (by omega) rfl ls (lv_sub hl [0, 1, 4, 3, 2] rfl)
  · refine lv_bipush (v := (-2)) hx hb dX11_reason_8 (by decide) ?_
    exact re_Q hx hb hr hlocks (rfl) hw hS dX11_reason_10 (⟨by rw [spReason, c5]; rfl, ⟨hd, sd, (up_id o1).symm⟩⟩)
set_option maxHeartbeats 4000000 in
set_option maxRecDepth 100000 in
theorem k_X11_halting (l : Launch) {G : GT} {c : Nat → va_E} {n n1 rn tn n2 qn : Nat} {z hd sd fr tto tk wo iz : Int32} {im : Bool} (o1 : c 32 = .inr (9, [.ref (gad G 33), .ref (gad G 34), .ref (gad G 35), .int (nI n), .int (nI n1), .int z, .int hd, .int sd, .ref (gad G 36), .ref (gad G 37), .int (nI rn), .ref (gad G 38), .int (nI tn), .int fr, .int tto, .int tk, .int wo, .ref (gad G 39), .ref (gad G 40), .ref (gad G 41), .ref (gad G 42), .ref (gad G 43), .ref (gad G 44), .int (nI n2), .int (nI qn), .int iz, .int (bi im)])) {f : Nat → Int32} (a1 : c 33 = .inl (gI G, 132, .inl f)) (hn : n ≤ 12) {a : Nat} (ha : a < n) : Met l yX11_halting (wv yX11_halting cX11_halting 3 (some .int)) ({ frames := 1, cells := 0, slots := 0, locals := 22 } : Room) (va_Pc [.ref (gad G 32), .int (nI a)] (fun U => Hw G c U U.heap)) (vp_Si (fun r => r = fstU (lex f a sd) n)) 0 0 (fun _ => False) := by
  refine en (by decide +kernel) (by first | exact Nat.le_of_ble_eq_true rfl | decide) ?_
  intro p e s m below meth cd ls hx hb hr hml hown hts hlocks hnm hw hl
  have hl : lv_has ls 3 [(0, .ref (gad G 32)), (1, .int (nI a))] := hl
  refine lv_iload_n hx hb dX11_halting_0 rfl (lv_at hl 1 rfl) ?_
  refine lv_iconst (v := 1) hx hb dX11_halting_1 (by decide) ?_
  refine lv_iadd hx hb dX11_halting_2 ?_
  refine tp (y := nI (a + 1)) (nI_1 a) ?_
  refine lv_istore_n (lv' := [(2, _), (0, _), (1, _)]) hx hb dX11_halting_3 rfl hl (by decide) rfl (fun ls hl => ?_)
  have L4 : ∀ (N : Nat) (i : Nat), (i + N = n) → (a < i) → (∀ q, q < i → lex f a sd q = false) → ∀ ls : Array Slot, lv_has ls 3 [(2, .int (nI i)), (1, .int (nI a)), (0, .ref (gad G 32))] → W p l e ({ frames := 1, cells := 0, slots := 0, locals := 22 } : Room) s m (([.ref (gad G 32), .int (nI a)] : List Value).toArray) below meth cd s.heap [] 0 0 (MQ below (vp_Si (fun r => r = fstU (lex f a sd) n)) ([.ref (gad G 32), .int (nI a)] : List Value).toArray s 0 0 (fun _ => False)) (F0 m 4 ls []) := by
    intro N
    induction N with
    | zero =>
      intro i  hN hi hA ls hl
      have hin : i = n := by omega
      rw [hin] at hA
      refine lv_iload_n hx hb dX11_halting_4 rfl (lv_at hl 0 rfl) ?_
      refine lv_aload_n hx hb dX11_halting_5 rfl (lv_at hl 2 rfl) ?_
      refine w_get (C := RX11) (T := TX11) (N := 27) 3 hx hb hts inX11 hown hw (by decide) o1 rfl (by decide) (hts _ tw_888) rfl dX11_halting_6 ?_
      refine lv_icmp_ge (tgt := 43) hx hb dX11_halting_9 (by decide) (fun c9 => ?_) (fun q => absurd (nI_le (by omega) (by omega)) q)
      refine lv_iconst (v := (-1)) hx hb dX11_halting_43 (by decide) ?_
      exact re_S hx hb hr hlocks (rfl) dX11_halting_44 ((fstU_n _ hA).symm)
    | succ N ih =>
      intro i  hN hi hA ls hl
      refine lv_iload_n hx hb dX11_halting_4 rfl (lv_at hl 0 rfl) ?_
      refine lv_aload_n hx hb dX11_halting_5 rfl (lv_at hl 2 rfl) ?_
      refine w_get (C := RX11) (T := TX11) (N := 27) 3 hx hb hts inX11 hown hw (by decide) o1 rfl (by decide) (hts _ tw_888) rfl dX11_halting_6 ?_
      refine lv_icmp_ge (tgt := 43) hx hb dX11_halting_9 (by decide) (fun q => absurd q (nI_ge (by omega) (by omega))) (fun c9 => ?_)
      refine lv_aload_n hx hb dX11_halting_12 rfl (lv_at hl 2 rfl) ?_
      refine lv_iload_n hx hb dX11_halting_13 rfl (lv_at hl 0 rfl) ?_
      refine lv_bipush (v := 10) hx hb dX11_halting_14 (by decide) ?_
      refine cSe (rV (As := [_, _]) ⟨hx, hb, hml, hown, hts⟩ hw (k_X11_is l o1 a1 hn (ixm i 10) (by omega)) (cv_X11_is hts tw_993 rfl rfl ⟨Nat.le_of_ble_eq_true rfl, Nat.le_of_ble_eq_true rfl⟩) (by decide) o1 rfl rfl hl.1 rfl (by first | exact Nat.le_of_ble_eq_true rfl | decide) dX11_halting_16 ⟨Nat.zero_le _, Nat.zero_le _⟩) ?_
      refine lv_iload_n hx hb dX11_halting_19 rfl (lv_at hl 1 rfl) ?_
      refine lv_icmp_ne (tgt := 37) hx hb dX11_halting_20 (by decide) (fun c20 => ?_) (fun c20 => ?_)
      · refine lv_iinc (v := nI (i + 1)) (lv' := [(2, _), (1, _), (0, _)]) hx hb dX11_halting_37 hl (k := 0) rfl (inc1 i) (by decide) rfl (fun ls hl => ?_)
        refine lv_goto (tgt := 4) hx hb dX11_halting_40 (by decide) ?_
        exact ih (i + 1) (by omega) (by omega) (lt_s hA (by simp [lex, isn, c20])) ls (lv_sub hl [0, 1, 2] rfl)
      · refine lv_aload_n hx hb dX11_halting_23 rfl (lv_at hl 2 rfl) ?_
        refine w_get (C := RX11) (T := TX11) (N := 27) 7 hx hb hts inX11 hown hw (by decide) o1 rfl (by decide) (hts _ tw_892) rfl dX11_halting_24 ?_
        refine lv_iload_n hx hb dX11_halting_27 rfl (lv_at hl 0 rfl) ?_
        refine lv_ishr hx hb dX11_halting_28 ?_
        refine lv_iconst (v := 1) hx hb dX11_halting_29 (by decide) ?_
        refine lv_iand hx hb dX11_halting_30 ?_
        refine lv_iconst (v := 1) hx hb dX11_halting_31 (by decide) ?_
        refine lv_icmp_ne (tgt := 37) hx hb dX11_halting_32 (by decide) (fun c32 => ?_) (fun c32 => ?_)
        · refine lv_iinc (v := nI (i + 1)) (lv' := [(2, _), (1, _), (0, _)]) hx hb dX11_halting_37 hl (k := 0) rfl (inc1 i) (by decide) rfl (fun ls hl => ?_)
          refine lv_goto (tgt := 4) hx hb dX11_halting_40 (by decide) ?_
          exact ih (i + 1) (by omega) (by omega) (lt_s hA (by simp [lex, isn, c20, c32])) ls (lv_sub hl [0, 1, 2] rfl)
        · refine lv_iload_n hx hb dX11_halting_35 rfl (lv_at hl 0 rfl) ?_
          exact re_S hx hb hr hlocks (rfl) dX11_halting_36 (by rw [fstU_s (by omega) hA (by simp [lex, isn, c20, c32]; omega) n (by omega)])
  exact L4 (n - (a + 1)) (a + 1) (by omega) (by omega) (by intro q hq; simp [lex]; intro z; omega) ls (lv_sub hl [0, 2, 1] rfl)
theorem wn2_f {w : Int32} (h : wn w 0 2 = false) : w ≠ 0 ∧ w ≠ 1 ∧ w ≠ 2 := by
  refine ⟨?_, ?_, ?_⟩ <;> (rintro rfl; revert h; decide)
theorem wn2_1 {w : Int32} (h : wn w 0 2 = true) (h0 : ¬ w = 0) (h2 : ¬ w = 2) : w = 1 := by
  obtain ⟨q, -, hq, rfl⟩ := wn_nI (a := 0) (b := 2) (by decide) (by decide) h
  rcases (show q = 0 ∨ q = 1 ∨ q = 2 by omega) with rfl | rfl | rfl
  · exact absurd rfl h0
  · rfl
  · exact absurd rfl h2
theorem isn_1 {h x : Int32} (e : ¬ (h >>> (x &&& 31)) &&& 1 = 0) : isn h x = true := by
  cases hb : isn h x with
  | true => rfl
  | false => exact absurd ((isn_0 h x).mp hb) e
set_option maxHeartbeats 4000000 in
set_option maxRecDepth 100000 in
theorem k_X11_why (l : Launch) {G : GT} {c : Nat → va_E} {n n1 rn tn n2 qn : Nat} {z hd sd fr tto tk wo iz : Int32} {im : Bool} (o1 : c 32 = .inr (9, [.ref (gad G 33), .ref (gad G 34), .ref (gad G 35), .int (nI n), .int (nI n1), .int z, .int hd, .int sd, .ref (gad G 36), .ref (gad G 37), .int (nI rn), .ref (gad G 38), .int (nI tn), .int fr, .int tto, .int tk, .int wo, .ref (gad G 39), .ref (gad G 40), .ref (gad G 41), .ref (gad G 42), .ref (gad G 43), .ref (gad G 44), .int (nI n2), .int (nI qn), .int iz, .int (bi im)])) {f : Nat → Int32} (a1 : c 33 = .inl (gI G, 132, .inl f)) (hn : n ≤ 12) {a d x w : Int32} (hI : cI f n) : Met l yX11_why (wv yX11_why cX11_why 5 (some .int)) ({ frames := 4, cells := 0, slots := 0, locals := 94 } : Room) (va_Pc [.ref (gad G 32), .int a, .int d, .int x, .int w] (fun U => Hw G c U U.heap)) (va_Qi (fun r (c9 : Nat → va_E) => r = spWhy f n a d x w ∧ ∃ h8 s8 : Int32, c9 = va_up c 32 (.inr (9, [.ref (gad G 33), .ref (gad G 34), .ref (gad G 35), .int (nI n), .int (nI n1), .int z, .int (h8), .int (s8), .ref (gad G 36), .ref (gad G 37), .int (nI rn), .ref (gad G 38), .int (nI tn), .int fr, .int tto, .int tk, .int wo, .ref (gad G 39), .ref (gad G 40), .ref (gad G 41), .ref (gad G 42), .ref (gad G 43), .ref (gad G 44), .int (nI n2), .int (nI qn), .int iz, .int (bi im)]))) (fun c9 t => Hw G c9 t t.heap) (gA G)) 0 0 (gA G) := by
  refine en (by decide +kernel) (by first | exact Nat.le_of_ble_eq_true rfl | decide) ?_
  intro p e s m below meth cd ls hx hb hr hml hown hts hlocks hnm hw hl
  have hl : lv_has ls 5 [(0, .ref (gad G 32)), (1, .int a), (2, .int d), (3, .int x), (4, .int w)] := hl
  have hX : Sw G s s.heap := hw.2.2.2.2.2
  have hS : va_S (gA G) s.heap s.heap [] := va_S.rf
  obtain ⟨H, hH⟩ : ∃ wz9, wz9 = s.heap := ⟨_, rfl⟩
  obtain ⟨locs, hlocs⟩ : ∃ wz9 : List Loc, wz9 = [] := ⟨_, rfl⟩
  have hw : Hw G c s H := by rw [hH]; exact hw
  have hS : va_S (gA G) s.heap H locs := by rw [hH, hlocs]; exact hS
  suffices hgo : W p l e ({ frames := 4, cells := 0, slots := 0, locals := 94 } : Room) s m (([.ref (gad G 32), .int a, .int d, .int x, .int w] : List Value).toArray) below meth cd H locs 0 0 (MQ below (va_Qi (fun r (c9 : Nat → va_E) => r = spWhy f n a d x w ∧ ∃ h8 s8 : Int32, c9 = va_up c 32 (.inr (9, [.ref (gad G 33), .ref (gad G 34), .ref (gad G 35), .int (nI n), .int (nI n1), .int z, .int (h8), .int (s8), .ref (gad G 36), .ref (gad G 37), .int (nI rn), .ref (gad G 38), .int (nI tn), .int fr, .int tto, .int tk, .int wo, .ref (gad G 39), .ref (gad G 40), .ref (gad G 41), .ref (gad G 42), .ref (gad G 43), .ref (gad G 44), .int (nI n2), .int (nI qn), .int iz, .int (bi im)]))) (fun c9 t => Hw G c9 t t.heap) (gA G)) ([.ref (gad G 32), .int a, .int d, .int x, .int w] : List Value).toArray s 0 0 (gA G)) (F0 m 0 ls []) by rw [hH, hlocs] at hgo; exact hgo
  refine lv_iload_n hx hb dX11_why_0 rfl (lv_at hl 1 rfl) ?_
  refine lv_iload_n hx hb dX11_why_1 rfl (lv_at hl 2 rfl) ?_
  refine cSe (rST (As := [_, _]) ⟨hx, hb, hml, hown, hts⟩ (k_X11_isAsked l ) (cv_X11_isAsked hts tw_1047 rfl rfl ⟨Nat.le_of_ble_eq_true rfl, Nat.le_of_ble_eq_true rfl⟩) rfl hl.1 rfl (by first | exact Nat.le_of_ble_eq_true rfl | decide) dX11_why_2 ⟨Nat.zero_le _, Nat.zero_le _⟩) ?_
  refine zb_eq (tgt := 26) hx hb dX11_why_5 (by decide) (fun c5 => ?_) (fun c5 => ?_)
  · refine lv_bipush (v := (-2)) hx hb dX11_why_26 (by decide) ?_
    exact re_Q hx hb hr hlocks (rfl) hw hS dX11_why_28 (⟨by rw [spWhy, c5]; rfl, ⟨hd, sd, (up_id o1).symm⟩⟩)
  · refine lv_aload_n hx hb dX11_why_8 rfl (lv_at hl 0 rfl) ?_
    refine lv_iload_n hx hb dX11_why_9 rfl (lv_at hl 3 rfl) ?_
    refine cSe (rV (As := [_]) ⟨hx, hb, hml, hown, hts⟩ hw (k_X11_isClause l o1 a1 hn) (cv_X11_isClause hts tw_983 rfl rfl ⟨Nat.le_of_ble_eq_true rfl, Nat.le_of_ble_eq_true rfl⟩) (by decide) o1 rfl rfl hl.1 rfl (by first | exact Nat.le_of_ble_eq_true rfl | decide) dX11_why_10 ⟨Nat.zero_le _, Nat.zero_le _⟩) ?_
    refine zb_eq (tgt := 26) hx hb dX11_why_13 (by decide) (fun c13 => ?_) (fun c13 => ?_)
    · refine lv_bipush (v := (-2)) hx hb dX11_why_26 (by decide) ?_
      exact re_Q hx hb hr hlocks (rfl) hw hS dX11_why_28 (⟨by rw [spWhy, c5, c13]; rfl, ⟨hd, sd, (up_id o1).symm⟩⟩)
    · refine lv_iload hx hb dX11_why_16 (lv_at hl 4 rfl) ?_
      refine lv_iconst (v := 0) hx hb dX11_why_18 (by decide) ?_
      refine lv_iconst (v := 2) hx hb dX11_why_19 (by decide) ?_
      refine cSe (rST (As := [_, _, _]) ⟨hx, hb, hml, hown, hts⟩ (k_X11_in l ) (cv_X11_in hts tw_987 rfl rfl ⟨Nat.le_of_ble_eq_true rfl, Nat.le_of_ble_eq_true rfl⟩) rfl hl.1 rfl (by first | exact Nat.le_of_ble_eq_true rfl | decide) dX11_why_20 ⟨Nat.zero_le _, Nat.zero_le _⟩) ?_
      refine zb_ne (tgt := 29) hx hb dX11_why_23 (by decide) (fun c23 => ?_) (fun c23 => ?_)
      · obtain ⟨p0, hp0, rfl⟩ := isP_t (Bool.and_eq_true_iff.mp c5).1
        obtain ⟨q, hq, rfl⟩ := hasN_t hn c13
        have hq9 : (nI q).toNatClampNeg = q := nI_clamp (by omega)
        refine lv_aload_n hx hb dX11_why_29 rfl (lv_at hl 0 rfl) ?_
        refine lv_aload_n hx hb dX11_why_30 rfl (lv_at hl 0 rfl) ?_
        refine w_get (C := RX11) (T := TX11) (N := 27) 0 hx hb hts inX11 hown hw (by decide) o1 rfl (by decide) (hts _ tw_885) rfl dX11_why_31 ?_
        refine lv_aload_n hx hb dX11_why_34 rfl (lv_at hl 0 rfl) ?_
        refine w_get (C := RX11) (T := TX11) (N := 27) 3 hx hb hts inX11 hown hw (by decide) o1 rfl (by decide) (hts _ tw_888) rfl dX11_why_35 ?_
        refine lv_iload_n hx hb dX11_why_38 rfl (lv_at hl 1 rfl) ?_
        refine lv_iload_n hx hb dX11_why_39 rfl (lv_at hl 2 rfl) ?_
        refine cQv (rV (As := [_, _, _, _]) ⟨hx, hb, hml, hown, hts⟩ hw (k_X11_looks l o1 (by decide) a1 hn hp0 hI) (cv_X11_looks hts tw_1061 rfl rfl ⟨Nat.le_of_ble_eq_true rfl, Nat.le_of_ble_eq_true rfl⟩) (by decide) o1 rfl rfl hl.1 rfl (by first | exact Nat.le_of_ble_eq_true rfl | decide) dX11_why_40 ⟨Nat.zero_le _, Nat.zero_le _⟩) hw hS (fun w1 H locs hp40 hw hS => ?_)
        have o1_1 : w1 32 = .inr (9, [.ref (gad G 33), .ref (gad G 34), .ref (gad G 35), .int (nI n), .int (nI n1), .int z, .int (hdM f n p0 d), .int (stM f n p0 d), .ref (gad G 36), .ref (gad G 37), .int (nI rn), .ref (gad G 38), .int (nI tn), .int fr, .int tto, .int tk, .int wo, .ref (gad G 39), .ref (gad G 40), .ref (gad G 41), .ref (gad G 42), .ref (gad G 43), .ref (gad G 44), .int (nI n2), .int (nI qn), .int iz, .int (bi im)]) := by rw [hp40]; exact vu_s
        have a1_1 : w1 33 = .inl (gI G, 132, .inl f) := by rw [hp40]; exact (vu_e (by decide) a1)
        refine lv_iload hx hb dX11_why_43 (lv_at hl 4 rfl) ?_
        refine lv_if_ne (tgt := 74) hx hb dX11_why_45 (by decide) (fun c45 => ?_) (fun c45 => ?_)
        · refine lv_iload hx hb dX11_why_74 (lv_at hl 4 rfl) ?_
          refine lv_iconst (v := 2) hx hb dX11_why_76 (by decide) ?_
          refine lv_icmp_ne (tgt := 86) hx hb dX11_why_77 (by decide) (fun c77 => ?_) (fun c77 => ?_)
          · refine lv_aload_n hx hb dX11_why_86 rfl (lv_at hl 0 rfl) ?_
            refine w_get (C := RX11) (T := TX11) (N := 27) 0 hx hb hts inX11 hown hw (by decide) o1_1 rfl (by decide) (hts _ tw_885) rfl dX11_why_87 ?_
            refine lv_iload_n hx hb dX11_why_90 rfl (lv_at hl 3 rfl) ?_
            refine lv_iload_n hx hb dX11_why_91 rfl (lv_at hl 2 rfl) ?_
            refine cSe (rS (As := [_, _, _]) ⟨hx, hb, hml, hown, hts⟩ hw (k_X11_isOfSpan l (by decide) a1_1 hn hq) (cv_X11_isOfSpan hts tw_1065 rfl rfl ⟨Nat.le_of_ble_eq_true rfl, Nat.le_of_ble_eq_true rfl⟩) rfl hl.1 rfl (by first | exact Nat.le_of_ble_eq_true rfl | decide) dX11_why_92 ⟨Nat.zero_le _, Nat.zero_le _⟩) ?_
            refine zb_ne (tgt := 102) hx hb dX11_why_95 (by decide) (fun c95 => ?_) (fun c95 => ?_)
            · refine lv_aload_n hx hb dX11_why_102 rfl (lv_at hl 0 rfl) ?_
              refine w_get (C := RX11) (T := TX11) (N := 27) 0 hx hb hts inX11 hown hw (by decide) o1_1 rfl (by decide) (hts _ tw_885) rfl dX11_why_103 ?_
              refine lv_iload_n hx hb dX11_why_106 rfl (lv_at hl 3 rfl) ?_
              refine lv_iload_n hx hb dX11_why_107 rfl (lv_at hl 1 rfl) ?_
              refine cSe (rS (As := [_, _, _]) ⟨hx, hb, hml, hown, hts⟩ hw (k_X11_isSo l (by decide) a1_1 hn hq hp0 (hI q hq)) (cv_X11_isSo hts tw_1068 rfl rfl ⟨Nat.le_of_ble_eq_true rfl, Nat.le_of_ble_eq_true rfl⟩) rfl hl.1 rfl (by first | exact Nat.le_of_ble_eq_true rfl | decide) dX11_why_108 ⟨Nat.zero_le _, Nat.zero_le _⟩) ?_
              refine zb_ne (tgt := 118) hx hb dX11_why_111 (by decide) (fun c111 => ?_) (fun c111 => ?_)
              · refine lv_aload_n hx hb dX11_why_118 rfl (lv_at hl 0 rfl) ?_
                refine w_get (C := RX11) (T := TX11) (N := 27) 7 hx hb hts inX11 hown hw (by decide) o1_1 rfl (by decide) (hts _ tw_892) rfl dX11_why_119 ?_
                refine lv_iload_n hx hb dX11_why_122 rfl (lv_at hl 3 rfl) ?_
                refine lv_ishr hx hb dX11_why_123 ?_
                refine lv_iconst (v := 1) hx hb dX11_why_124 (by decide) ?_
                refine lv_iand hx hb dX11_why_125 ?_
                refine lv_if_ne (tgt := 133) hx hb dX11_why_126 (by decide) (fun c126 => ?_) (fun c126 => ?_)
                · refine lv_aload_n hx hb dX11_why_133 rfl (lv_at hl 0 rfl) ?_
                  refine lv_aload_n hx hb dX11_why_134 rfl (lv_at hl 0 rfl) ?_
                  refine w_get (C := RX11) (T := TX11) (N := 27) 0 hx hb hts inX11 hown hw (by decide) o1_1 rfl (by decide) (hts _ tw_885) rfl dX11_why_135 ?_
                  refine lv_iload_n hx hb dX11_why_138 rfl (lv_at hl 3 rfl) ?_
                  refine cSe (rV (As := [_, _]) ⟨hx, hb, hml, hown, hts⟩ hw (k_X11_counts l o1_1 (by decide) a1_1 hn hq) (cv_X11_counts hts tw_1071 rfl rfl ⟨Nat.le_of_ble_eq_true rfl, Nat.le_of_ble_eq_true rfl⟩) (by decide) o1_1 rfl rfl hl.1 rfl (by first | exact Nat.le_of_ble_eq_true rfl | decide) dX11_why_139 ⟨Nat.zero_le _, Nat.zero_le _⟩) ?_
                  refine zb_eq (tgt := 149) hx hb dX11_why_142 (by decide) (fun c142 => ?_) (fun c142 => ?_)
                  · refine lv_iconst (v := 4) hx hb dX11_why_149 (by decide) ?_
                    exact re_Q hx hb hr hlocks (rfl) hw hS dX11_why_150 (⟨by have hw1 := wn2_1 c23 c45 c77; subst hw1; simp [spWhy, show (isP (nI p0) && isDy d) = true from c5, c13, pN_nI hp0, hq9, cnM, hbf, c95, c111, isn_1 c126, c142], _, _, hp40⟩)
                  · refine lv_iconst (v := 0) hx hb dX11_why_145 (by decide) ?_
                    refine lv_goto (tgt := 150) hx hb dX11_why_146 (by decide) ?_
                    exact re_Q hx hb hr hlocks (rfl) hw hS dX11_why_150 (⟨by have hw1 := wn2_1 c23 c45 c77; subst hw1; simp [spWhy, show (isP (nI p0) && isDy d) = true from c5, c13, pN_nI hp0, hq9, cnM, hbf, c95, c111, isn_1 c126, c142], _, _, hp40⟩)
                · refine lv_iconst (v := 3) hx hb dX11_why_129 (by decide) ?_
                  refine lv_goto (tgt := 150) hx hb dX11_why_130 (by decide) ?_
                  exact re_Q hx hb hr hlocks (rfl) hw hS dX11_why_150 (⟨by have hw1 := wn2_1 c23 c45 c77; subst hw1; simp [spWhy, show (isP (nI p0) && isDy d) = true from c5, c13, pN_nI hp0, hq9, cnM, hbf, c95, c111, (isn_0 _ _).mpr c126], _, _, hp40⟩)
              · refine lv_iconst (v := 2) hx hb dX11_why_114 (by decide) ?_
                refine lv_goto (tgt := 150) hx hb dX11_why_115 (by decide) ?_
                exact re_Q hx hb hr hlocks (rfl) hw hS dX11_why_150 (⟨by have hw1 := wn2_1 c23 c45 c77; subst hw1; simp [spWhy, show (isP (nI p0) && isDy d) = true from c5, c13, pN_nI hp0, hq9, cnM, hbf, c95, c111], _, _, hp40⟩)
            · refine lv_iconst (v := 1) hx hb dX11_why_98 (by decide) ?_
              refine lv_goto (tgt := 150) hx hb dX11_why_99 (by decide) ?_
              exact re_Q hx hb hr hlocks (rfl) hw hS dX11_why_150 (⟨by have hw1 := wn2_1 c23 c45 c77; subst hw1; simp [spWhy, show (isP (nI p0) && isDy d) = true from c5, c13, pN_nI hp0, hq9, cnM, hbf, c95], _, _, hp40⟩)
          · refine lv_aload_n hx hb dX11_why_80 rfl (lv_at hl 0 rfl) ?_
            refine lv_iload_n hx hb dX11_why_81 rfl (lv_at hl 3 rfl) ?_
            refine cSe (rV (As := [_]) ⟨hx, hb, hml, hown, hts⟩ hw (k_X11_halting l o1_1 a1_1 hn hq) (cv_X11_halting hts tw_1086 rfl rfl ⟨Nat.le_of_ble_eq_true rfl, Nat.le_of_ble_eq_true rfl⟩) (by decide) o1_1 rfl rfl hl.1 rfl (by first | exact Nat.le_of_ble_eq_true rfl | decide) dX11_why_82 ⟨Nat.zero_le _, Nat.zero_le _⟩) ?_
            exact re_Q hx hb hr hlocks (rfl) hw hS dX11_why_85 (⟨by simp [spWhy, show (isP (nI p0) && isDy d) = true from c5, c13, pN_nI hp0, hq9, cnM, if_neg c45, if_pos c77, show ¬ w = 1 from fun e => by rw [e] at c77; revert c77; decide], _, _, hp40⟩)
        · refine lv_aload_n hx hb dX11_why_48 rfl (lv_at hl 0 rfl) ?_
          refine lv_aload_n hx hb dX11_why_49 rfl (lv_at hl 0 rfl) ?_
          refine w_get (C := RX11) (T := TX11) (N := 27) 0 hx hb hts inX11 hown hw (by decide) o1_1 rfl (by decide) (hts _ tw_885) rfl dX11_why_50 ?_
          refine lv_iload_n hx hb dX11_why_53 rfl (lv_at hl 3 rfl) ?_
          refine cSe (rV (As := [_, _]) ⟨hx, hb, hml, hown, hts⟩ hw (k_X11_counts l o1_1 (by decide) a1_1 hn hq) (cv_X11_counts hts tw_1071 rfl rfl ⟨Nat.le_of_ble_eq_true rfl, Nat.le_of_ble_eq_true rfl⟩) (by decide) o1_1 rfl rfl hl.1 rfl (by first | exact Nat.le_of_ble_eq_true rfl | decide) dX11_why_54 ⟨Nat.zero_le _, Nat.zero_le _⟩) ?_
          refine zb_eq (tgt := 72) hx hb dX11_why_57 (by decide) (fun c57 => ?_) (fun c57 => ?_)
          · refine lv_iconst (v := 0) hx hb dX11_why_72 (by decide) ?_
            exact re_Q hx hb hr hlocks (rfl) hw hS dX11_why_73 (⟨by simp [spWhy, show (isP (nI p0) && isDy d) = true from c5, c13, pN_nI hp0, hq9, cnM, if_pos c45, c57], _, _, hp40⟩)
          · refine lv_aload_n hx hb dX11_why_60 rfl (lv_at hl 0 rfl) ?_
            refine w_get (C := RX11) (T := TX11) (N := 27) 0 hx hb hts inX11 hown hw (by decide) o1_1 rfl (by decide) (hts _ tw_885) rfl dX11_why_61 ?_
            refine lv_iload_n hx hb dX11_why_64 rfl (lv_at hl 3 rfl) ?_
            refine lv_iload_n hx hb dX11_why_65 rfl (lv_at hl 1 rfl) ?_
            refine cSe (rS (As := [_, _, _]) ⟨hx, hb, hml, hown, hts⟩ hw (k_X11_brings l (by decide) a1_1 hn hq hp0 (hI q hq)) (cv_X11_brings hts tw_1075 rfl rfl ⟨Nat.le_of_ble_eq_true rfl, Nat.le_of_ble_eq_true rfl⟩) rfl hl.1 rfl (by first | exact Nat.le_of_ble_eq_true rfl | decide) dX11_why_66 ⟨Nat.zero_le _, Nat.zero_le _⟩) ?_
            refine lv_goto (tgt := 73) hx hb dX11_why_69 (by decide) ?_
            exact re_Q hx hb hr hlocks (rfl) hw hS dX11_why_73 (⟨by simp [spWhy, show (isP (nI p0) && isDy d) = true from c5, c13, pN_nI hp0, hq9, cnM, if_pos c45, c57], _, _, hp40⟩)
      · refine lv_bipush (v := (-2)) hx hb dX11_why_26 (by decide) ?_
        exact re_Q hx hb hr hlocks (rfl) hw hS dX11_why_28 (⟨by rw [spWhy, c5, c13]; obtain ⟨y0, y1, y2⟩ := wn2_f c23; simp [y0, y1, y2], ⟨hd, sd, (up_id o1).symm⟩⟩)
set_option maxHeartbeats 4000000 in
set_option maxRecDepth 100000 in
theorem k_X11_hold (l : Launch) {G : GT} {c : Nat → va_E} {n n1 rn tn n2 qn : Nat} {z hd sd fr tto tk wo iz : Int32} {im : Bool} (o1 : c 32 = .inr (9, [.ref (gad G 33), .ref (gad G 34), .ref (gad G 35), .int (nI n), .int (nI n1), .int z, .int hd, .int sd, .ref (gad G 36), .ref (gad G 37), .int (nI rn), .ref (gad G 38), .int (nI tn), .int fr, .int tto, .int tk, .int wo, .ref (gad G 39), .ref (gad G 40), .ref (gad G 41), .ref (gad G 42), .ref (gad G 43), .ref (gad G 44), .int (nI n2), .int (nI qn), .int iz, .int (bi im)])) {f : Nat → Int32} (a1 : c 33 = .inl (gI G, 132, .inl f)) (hn : n ≤ 12) {a d w : Int32} (hI : cI f n) : Met l yX11_hold (wv yX11_hold cX11_hold 4 (some .int)) ({ frames := 4, cells := 0, slots := 0, locals := 94 } : Room) (va_Pc [.ref (gad G 32), .int a, .int d, .int w] (fun U => Hw G c U U.heap)) (va_Qi (fun r (c9 : Nat → va_E) => r = spHold f n a d w ∧ ∃ h8 s8 : Int32, c9 = va_up c 32 (.inr (9, [.ref (gad G 33), .ref (gad G 34), .ref (gad G 35), .int (nI n), .int (nI n1), .int z, .int (h8), .int (s8), .ref (gad G 36), .ref (gad G 37), .int (nI rn), .ref (gad G 38), .int (nI tn), .int fr, .int tto, .int tk, .int wo, .ref (gad G 39), .ref (gad G 40), .ref (gad G 41), .ref (gad G 42), .ref (gad G 43), .ref (gad G 44), .int (nI n2), .int (nI qn), .int iz, .int (bi im)]))) (fun c9 t => Hw G c9 t t.heap) (gA G)) 0 0 (gA G) := by
  refine en (by decide +kernel) (by first | exact Nat.le_of_ble_eq_true rfl | decide) ?_
  intro p e s m below meth cd ls hx hb hr hml hown hts hlocks hnm hw hl
  have hl : lv_has ls 4 [(0, .ref (gad G 32)), (1, .int a), (2, .int d), (3, .int w)] := hl
  have hX : Sw G s s.heap := hw.2.2.2.2.2
  have hS : va_S (gA G) s.heap s.heap [] := va_S.rf
  obtain ⟨H, hH⟩ : ∃ wz9, wz9 = s.heap := ⟨_, rfl⟩
  obtain ⟨locs, hlocs⟩ : ∃ wz9 : List Loc, wz9 = [] := ⟨_, rfl⟩
  have hw : Hw G c s H := by rw [hH]; exact hw
  have hS : va_S (gA G) s.heap H locs := by rw [hH, hlocs]; exact hS
  suffices hgo : W p l e ({ frames := 4, cells := 0, slots := 0, locals := 94 } : Room) s m (([.ref (gad G 32), .int a, .int d, .int w] : List Value).toArray) below meth cd H locs 0 0 (MQ below (va_Qi (fun r (c9 : Nat → va_E) => r = spHold f n a d w ∧ ∃ h8 s8 : Int32, c9 = va_up c 32 (.inr (9, [.ref (gad G 33), .ref (gad G 34), .ref (gad G 35), .int (nI n), .int (nI n1), .int z, .int (h8), .int (s8), .ref (gad G 36), .ref (gad G 37), .int (nI rn), .ref (gad G 38), .int (nI tn), .int fr, .int tto, .int tk, .int wo, .ref (gad G 39), .ref (gad G 40), .ref (gad G 41), .ref (gad G 42), .ref (gad G 43), .ref (gad G 44), .int (nI n2), .int (nI qn), .int iz, .int (bi im)]))) (fun c9 t => Hw G c9 t t.heap) (gA G)) ([.ref (gad G 32), .int a, .int d, .int w] : List Value).toArray s 0 0 (gA G)) (F0 m 0 ls []) by rw [hH, hlocs] at hgo; exact hgo
  refine lv_iload_n hx hb dX11_hold_0 rfl (lv_at hl 1 rfl) ?_
  refine lv_iload_n hx hb dX11_hold_1 rfl (lv_at hl 2 rfl) ?_
  refine cSe (rST (As := [_, _]) ⟨hx, hb, hml, hown, hts⟩ (k_X11_isAsked l ) (cv_X11_isAsked hts tw_1047 rfl rfl ⟨Nat.le_of_ble_eq_true rfl, Nat.le_of_ble_eq_true rfl⟩) rfl hl.1 rfl (by first | exact Nat.le_of_ble_eq_true rfl | decide) dX11_hold_2 ⟨Nat.zero_le _, Nat.zero_le _⟩) ?_
  refine zb_eq (tgt := 17) hx hb dX11_hold_5 (by decide) (fun c5 => ?_) (fun c5 => ?_)
  · refine lv_bipush (v := (-2)) hx hb dX11_hold_17 (by decide) ?_
    exact re_Q hx hb hr hlocks (rfl) hw hS dX11_hold_19 (⟨by rw [spHold, c5]; rfl, ⟨hd, sd, (up_id o1).symm⟩⟩)
  · refine lv_iload_n hx hb dX11_hold_8 rfl (lv_at hl 3 rfl) ?_
    refine lv_iconst (v := 0) hx hb dX11_hold_9 (by decide) ?_
    refine lv_iconst (v := 1) hx hb dX11_hold_10 (by decide) ?_
    refine cSe (rST (As := [_, _, _]) ⟨hx, hb, hml, hown, hts⟩ (k_X11_in l ) (cv_X11_in hts tw_987 rfl rfl ⟨Nat.le_of_ble_eq_true rfl, Nat.le_of_ble_eq_true rfl⟩) rfl hl.1 rfl (by first | exact Nat.le_of_ble_eq_true rfl | decide) dX11_hold_11 ⟨Nat.zero_le _, Nat.zero_le _⟩) ?_
    refine zb_ne (tgt := 20) hx hb dX11_hold_14 (by decide) (fun c14 => ?_) (fun c14 => ?_)
    · obtain ⟨p0, hp0, rfl⟩ := isP_t (Bool.and_eq_true_iff.mp c5).1
      refine lv_aload_n hx hb dX11_hold_20 rfl (lv_at hl 0 rfl) ?_
      refine lv_aload_n hx hb dX11_hold_21 rfl (lv_at hl 0 rfl) ?_
      refine w_get (C := RX11) (T := TX11) (N := 27) 0 hx hb hts inX11 hown hw (by decide) o1 rfl (by decide) (hts _ tw_885) rfl dX11_hold_22 ?_
      refine lv_aload_n hx hb dX11_hold_25 rfl (lv_at hl 0 rfl) ?_
      refine w_get (C := RX11) (T := TX11) (N := 27) 3 hx hb hts inX11 hown hw (by decide) o1 rfl (by decide) (hts _ tw_888) rfl dX11_hold_26 ?_
      refine lv_iload_n hx hb dX11_hold_29 rfl (lv_at hl 1 rfl) ?_
      refine lv_iload_n hx hb dX11_hold_30 rfl (lv_at hl 2 rfl) ?_
      refine cQv (rV (As := [_, _, _, _]) ⟨hx, hb, hml, hown, hts⟩ hw (k_X11_looks l o1 (by decide) a1 hn hp0 hI) (cv_X11_looks hts tw_1061 rfl rfl ⟨Nat.le_of_ble_eq_true rfl, Nat.le_of_ble_eq_true rfl⟩) (by decide) o1 rfl rfl hl.1 rfl (by first | exact Nat.le_of_ble_eq_true rfl | decide) dX11_hold_31 ⟨Nat.zero_le _, Nat.zero_le _⟩) hw hS (fun w1 H locs hp31 hw hS => ?_)
      have o1_1 : w1 32 = .inr (9, [.ref (gad G 33), .ref (gad G 34), .ref (gad G 35), .int (nI n), .int (nI n1), .int z, .int (hdM f n p0 d), .int (stM f n p0 d), .ref (gad G 36), .ref (gad G 37), .int (nI rn), .ref (gad G 38), .int (nI tn), .int fr, .int tto, .int tk, .int wo, .ref (gad G 39), .ref (gad G 40), .ref (gad G 41), .ref (gad G 42), .ref (gad G 43), .ref (gad G 44), .int (nI n2), .int (nI qn), .int iz, .int (bi im)]) := by rw [hp31]; exact vu_s
      have a1_1 : w1 33 = .inl (gI G, 132, .inl f) := by rw [hp31]; exact (vu_e (by decide) a1)
      refine lv_iload_n hx hb dX11_hold_34 rfl (lv_at hl 3 rfl) ?_
      refine lv_if_ne (tgt := 45) hx hb dX11_hold_35 (by decide) (fun c35 => ?_) (fun c35 => ?_)
      · refine lv_aload_n hx hb dX11_hold_45 rfl (lv_at hl 0 rfl) ?_
        refine w_get (C := RX11) (T := TX11) (N := 27) 7 hx hb hts inX11 hown hw (by decide) o1_1 rfl (by decide) (hts _ tw_892) rfl dX11_hold_46 ?_
        exact re_Q hx hb hr hlocks (rfl) hw hS dX11_hold_49 (⟨by rw [spHold, c5, c14, pN_nI hp0]; rw [if_neg c35]; rfl, _, _, hp31⟩)
      · refine lv_aload_n hx hb dX11_hold_38 rfl (lv_at hl 0 rfl) ?_
        refine w_get (C := RX11) (T := TX11) (N := 27) 6 hx hb hts inX11 hown hw (by decide) o1_1 rfl (by decide) (hts _ tw_891) rfl dX11_hold_39 ?_
        refine lv_goto (tgt := 49) hx hb dX11_hold_42 (by decide) ?_
        exact re_Q hx hb hr hlocks (rfl) hw hS dX11_hold_49 (⟨by rw [spHold, c5, c14, pN_nI hp0]; rw [if_pos c35]; rfl, _, _, hp31⟩)
    · refine lv_bipush (v := (-2)) hx hb dX11_hold_17 (by decide) ?_
      exact re_Q hx hb hr hlocks (rfl) hw hS dX11_hold_19 (⟨by rw [spHold, c5, c14]; rfl, ⟨hd, sd, (up_id o1).symm⟩⟩)
