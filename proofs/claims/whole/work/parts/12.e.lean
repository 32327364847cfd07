/-! THE TEXT, by the reference: its token is the k-th -/
section BW4
variable {p : Program} {l : Launch} {e : Env} {R : Room} {s : State} {m : MethodId} {args : Array Value} {below : List Frame} {meth : Method} {cd : Code} {H : Heap} {locs : List Loc} {cells slots : Nat} {Q : State → Prop}
variable {cc : ByteArray} {pc : Nat} {ls : Array Slot} {rest : List Value}
theorem w_ldcwS (hexec : p.tables.exec = Jvm.exec) (hb : cd.code = cc) {own tx : String} {index q : Nat} (hown : s.vm.findClass own = some m.cls) (hZ : vk_R own index tx q s) (hdg : decode cc pc = .ok (.ldc_w index, 3))
    (k : W p l e R s m args below meth cd H locs cells slots Q (F0 m (pc + 3) ls (.ref q :: rest))) : W p l e R s m args below meth cd H locs cells slots Q (F0 m pc ls rest) := by
  intro T hT X
  obtain ⟨t, a1, b1⟩ := k T hT X
  refine ⟨t, ?_, b1⟩
  obtain ⟨kc, cf, i, a', hk, hcf, hcp, -, hr, hev'⟩ := Cond.stringRef_spec hown hZ.1
  cases hZ.2.symm.trans hev'
  obtain ⟨k', hk', he⟩ := X.warmed.alike.2.2 _ _ hk
  have hr' : k'.resolved[index]? = some (some (.string q)) := by
    rcases X.warmed.entry hk hk' index with h | ⟨h, -⟩
    · rw [h]; exact hr
    · rw [hr] at h; cases h
  have hdg' : decode cd.code (F0 m pc ls rest).pc = .ok (.ldc_w index, 3) := by rw [hb]; exact hdg
  jvm_step X.here [hexec, hdg', ldc_w.wp_string (e := e) (s := T) (f := F0 m pc ls rest) X.here.top hk' (by rw [he]; exact hcf) hcp hr']
  exact a1
end BW4
theorem wn_aa (x a : Int32) : wn x a a = decide (x = a) := by
  unfold wn
  by_cases h : x = a
  · subst h; simp
  · have : x < a ∨ a < x := by
      rw [Int32.lt_iff_toInt_lt, Int32.lt_iff_toInt_lt]
      have h1 : x.toInt ≠ a.toInt := fun e => h (Int32.toInt_inj.mp e)
      omega
    rcases this with h1 | h1 <;> simp [h, h1]
def nmR (tf : Nat → Int32) (s : Nat) : Nat → Int32
  | 0 => 0
  | k + 1 => if 999 < nmR tf s k then nmR tf s k else 10 * nmR tf s k + tf (s + k) - 48
def wW (tf : Nat → Int32) (tn p : Nat) : Int32 := if tn ≤ fF tf tn p then 0 else if leP tf (fF tf tn p) then 0 else if diP tf (fF tf tn p) then nmR tf (fF tf tn p) (tT tf tn p - fF tf tn p) else 0
def wR (tf : Nat → Int32) (tn k : Nat) : Int32 := wW tf tn (tkP tf tn k)
theorem nm_rel {tf : Nat → Int32} {s : Nat} : ∀ k, (∀ j, j < k → diP tf (s + j) = true) → ∃ v : Nat, v < 10000 ∧ nmR tf s k = nI v ∧ nmb tf s k = nI (min v 1000)
  | 0, _ => ⟨0, by omega, rfl, rfl⟩
  | k + 1, h => by
    obtain ⟨v, hv, e1, e2⟩ := nm_rel (tf := tf) (s := s) k (fun j hj => h j (by omega))
    obtain ⟨d, hd1, hd2, ed⟩ := wn_nI (a := 48) (b := 57) (by decide) (by decide) (h k (by omega))
    have step : ∀ x : Nat, 10 * nI x + tf (s + k) - 48 = nI (10 * x + (d - 48)) := by
      intro x
      show nI 10 * nI x + tf (s + k) - nI 48 = _
      rw [ed, pk_mul, nI_add, show 10 * x + d = (10 * x + (d - 48)) + 48 by omega, ← nI_add]
      exact Int32.add_sub_cancel _ _
    rw [nmR, nmb, e1, e2, step, step]
    have hm : ∀ y : Nat, y < 2 ^ 31 → minI 1000 (nI y) = nI (min y 1000) := by
      intro y hy
      unfold minI
      by_cases h1 : y < 1000
      · rw [if_pos (show nI y < (1000 : Int32) from (nI_ltI (b := 1000) hy (by omega)).mpr h1), Nat.min_eq_left (by omega)]
      · rw [if_neg (show ¬ nI y < (1000 : Int32) from fun q => h1 ((nI_ltI (b := 1000) hy (by omega)).mp q)), Nat.min_eq_right (by omega)]; rfl
    rw [hm _ (by omega)]
    by_cases h9 : 999 < v
    · rw [if_pos (show (999 : Int32) < nI v from (nI_ltI (a := 999) (by omega) (by omega)).mpr h9)]
      refine ⟨v, hv, rfl, ?_⟩
      congr 1
      omega
    · rw [if_neg (show ¬ (999 : Int32) < nI v from fun q => h9 ((nI_ltI (a := 999) (by omega) (by omega)).mp q))]
      refine ⟨10 * v + (d - 48), by omega, rfl, ?_⟩
      congr 1
      omega
theorem bhd_all {P : Nat → Bool} : ∀ N i j, i ≤ j → j < bhd P N i → P j = true
  | 0, i, j, h1, h2 => by rw [bhd] at h2; omega
  | N + 1, i, j, h1, h2 => by
    rw [bhd] at h2
    by_cases hp : P i = true
    · rw [if_pos hp] at h2
      by_cases e : j = i
      · rw [e]; exact hp
      · exact bhd_all N (i + 1) j (by omega) h2
    · rw [if_neg hp] at h2; omega
theorem tk2_rel {tf : Nat → Int32} {tn k : Nat} (h : tkK tf tn k = 2) : ∃ v : Nat, v < 10000 ∧ wR tf tn k = nI v ∧ tkV tf tn k = nI (min v 1000) := by
  unfold tkK kK at h
  unfold wR wW tkV vV
  generalize hp : tkP tf tn k = p at h ⊢
  by_cases h1 : tn ≤ fF tf tn p
  · rw [if_pos h1] at h; omega
  rw [if_neg h1] at h ⊢
  rw [if_neg h1]
  by_cases h2 : leP tf (fF tf tn p) = true
  · rw [if_pos h2] at h; omega
  rw [if_neg h2] at h ⊢
  rw [if_neg h2]
  by_cases h3 : diP tf (fF tf tn p) = true
  · rw [if_pos h3, if_pos h3]
    refine nm_rel _ (fun j hj => ?_)
    have e : tT tf tn p = bhd (diP tf) (tn - fF tf tn p) (fF tf tn p) := by rw [tT, if_neg h1, if_neg h2, if_pos h3]
    exact bhd_all _ _ _ (Nat.le_add_right _ _) (by rw [← e]; omega)
  · rw [if_neg h3] at h
    by_cases h4 : tf (fF tf tn p) = 59
    · rw [if_pos h4] at h; omega
    · rw [if_neg h4] at h; omega
theorem wn_cap {v : Nat} {lo hi : Int32} (hv : v < 10000) (hhi : hi < 1000) : wn (nI v) lo hi = wn (nI (min v 1000)) lo hi ∧ (wn (nI v) lo hi = true → nI v = nI (min v 1000)) := by
  by_cases h : v ≤ 1000
  · rw [Nat.min_eq_left h]; exact ⟨rfl, fun _ => rfl⟩
  · rw [Nat.min_eq_right (by omega)]
    have h1 : hi < nI v := by
      rw [Int32.lt_iff_toInt_lt] at hhi ⊢
      rw [nI_toInt (by omega)]
      have : (1000 : Int32).toInt = 1000 := by decide
      omega
    have e1 : wn (nI v) lo hi = false := by unfold wn; simp [h1]
    have e2 : wn (nI 1000) lo hi = false := by unfold wn; simp [show hi < nI 1000 from hhi]
    rw [e1, e2]
    exact ⟨rfl, fun q => by cases q⟩
/-- the words are apart -/
theorem sx_ne : ∀ i, i < 17 → ∀ j, j < 17 → i ≠ j → sxN.getD i 0 = sxN.getD j 0 → ∃ k, k < sxN.getD i 0 ∧ sxc i k ≠ sxc j k := by decide +kernel
theorem allU_g {P : Nat → Bool} : ∀ n, allU P n = true → ∀ i, i < n → P i = true
  | 0, _, i, hi => absurd hi (Nat.not_lt_zero _)
  | n + 1, h, i, hi => by
    rw [allU, Bool.and_eq_true] at h
    rcases Nat.lt_succ_iff_lt_or_eq.mp hi with q | q
    · exact allU_g n h.1 i q
    · rw [q]; exact h.2
theorem hsB_inj {tf : Nat → Int32} {a e i j : Nat} (hi : i < 17) (hj : j < 17) (h1 : hsB tf a e i = true) (h2 : hsB tf a e j = true) : i = j := by
  by_cases q : i = j
  · exact q
  · unfold hsB at h1 h2
    rw [Bool.and_eq_true, decide_eq_true_eq] at h1 h2
    obtain ⟨k, hk, hne⟩ := sx_ne i hi j hj q (by rw [← h1.1, ← h2.1])
    have a1 := allU_g _ h1.2 k hk
    have a2 := allU_g _ h2.2 k (by rw [← h2.1, h1.1]; exact hk)
    rw [decide_eq_true_eq] at a1 a2
    exact absurd (a1.symm.trans a2) hne
theorem fstU_iff {tf : Nat → Int32} {a e i : Nat} (hi : i < 17) : fstU (hsB tf a e) 17 = nI i ↔ hsB tf a e i = true := by
  constructor
  · intro h
    by_cases q : ∃ j, j < 17 ∧ hsB tf a e j = true
    · obtain ⟨j, hj, hb⟩ := q
      have := fstU_s (P := hsB tf a e) (i := j) (by omega) (fun x hx => by
        cases hq : hsB tf a e x with
        | false => rfl
        | true => exact absurd (hsB_inj (by omega) hj hq hb) (by omega)) hb 17 hj
      rw [this] at h
      rw [← (nI_eq (by omega) (by omega)).mp h]
      exact hb
    · have := fstU_n (P := hsB tf a e) 17 (fun x hx => by
        cases hq : hsB tf a e x with
        | false => rfl
        | true => exact absurd ⟨x, hx, hq⟩ q)
      rw [this] at h
      exact absurd h.symm (nI_ne_m1 (by omega))
  · intro hb
    exact fstU_s (P := hsB tf a e) (i := i) (by omega) (fun x hx => by
      cases hq : hsB tf a e x with
      | false => rfl
      | true => exact absurd (hsB_inj (by omega) hi hq hb) (by omega)) hb 17 hi
theorem tk1_V {tf : Nat → Int32} {tn k : Nat} (h : tkK tf tn k = 1) : tkV tf tn k = fstU (hsB tf (tkF tf tn k) (tkP tf tn (k + 1))) 17 := by
  unfold tkK kK at h
  show vV tf tn (tkP tf tn k) = fstU (hsB tf (fF tf tn (tkP tf tn k)) (tT tf tn (tkP tf tn k))) 17
  unfold vV
  generalize hp : tkP tf tn k = p at h ⊢
  by_cases h1 : tn ≤ fF tf tn p
  · rw [if_pos h1] at h; omega
  rw [if_neg h1] at h ⊢
  by_cases h2 : leP tf (fF tf tn p) = true
  · rw [if_pos h2]
  · rw [if_neg h2] at h
    by_cases h3 : diP tf (fF tf tn p) = true
    · rw [if_pos h3] at h; omega
    · rw [if_neg h3] at h
      by_cases h4 : tf (fF tf tn p) = 59
      · rw [if_pos h4] at h; omega
      · rw [if_neg h4] at h; omega
theorem isW_ref {tf : Nat → Int32} {tn k i : Nat} (hi : i < 17) : isW (KK tf tn) (VV tf tn) k (nI i) (nI i) = (decide (tkK tf tn k = 1) && hsB tf (tkF tf tn k) (tkP tf tn (k + 1)) i) := by
  unfold isW
  rw [wn_aa]
  have e : decide (KK tf tn k = 1) = decide (tkK tf tn k = 1) := by
    rw [decide_eq_decide]
    exact nI_eq (b := 1) (by have := tkK_4 (tf := tf) (tn := tn) (k := k); omega) (by omega)
  rw [e]
  by_cases h : tkK tf tn k = 1
  · simp only [h, decide_true, Bool.true_and]
    rw [show VV tf tn k = tkV tf tn k from rfl, tk1_V h]
    cases hb : hsB tf (tkF tf tn k) (tkP tf tn (k + 1)) i with
    | true => exact decide_eq_true ((fstU_iff hi).mpr hb)
    | false => exact decide_eq_false (fun q => by rw [(fstU_iff hi).mp q] at hb; cases hb)
  · simp [h]
theorem tW_f {K V : Nat → Int32} {w : Int32} {k k9 : Nat} {f f9 : Nat → Int32} {b : Bool} (h : tW K V w k f = (b, k9, f9)) (hb : b = false) : isW K V k w w = false ∧ k9 = k ∧ f9 = f := by
  unfold tW at h
  by_cases q : isW K V k w w = true
  · rw [if_pos q] at h
    have := congrArg Prod.fst h
    rw [hb] at this
    cases this
  · rw [if_neg q] at h
    cases h
    exact ⟨by simpa using q, rfl, rfl⟩
theorem tW_t {K V : Nat → Int32} {w : Int32} {k k9 : Nat} {f f9 : Nat → Int32} {b : Bool} (h : tW K V w k f = (b, k9, f9)) (hb : b = true) : isW K V k w w = true ∧ k9 = k + 1 ∧ f9 = f := by
  unfold tW at h
  by_cases q : isW K V k w w = true
  · rw [if_pos q] at h
    cases h
    exact ⟨q, rfl, rfl⟩
  · rw [if_neg q] at h
    have := congrArg Prod.fst h
    rw [hb] at this
    cases this
theorem isW_V {K V : Nat → Int32} {k : Nat} {w a b : Int32} (h : isW K V k w w = true) (hw : wn w a b = true) : V k = w ∧ isW K V k a b = true := by
  unfold isW at h ⊢
  rw [Bool.and_eq_true] at h
  have e := h.2
  rw [wn_aa, decide_eq_true_eq] at e
  rw [e, h.1, hw]
  exact ⟨rfl, rfl⟩
theorem isW_no {K V : Nat → Int32} {k a b : Nat} (ha : a < 2 ^ 31) (hb : b < 2 ^ 31 - 1) (h : ∀ t, a ≤ t → t ≤ b → isW K V k (nI t) (nI t) = false) : isW K V k (nI a) (nI b) = false := by
  cases q : isW K V k (nI a) (nI b) with
  | false => rfl
  | true =>
    unfold isW at q
    rw [Bool.and_eq_true] at q
    obtain ⟨t, h1, h2, e⟩ := wn_nI (a := a) (b := b) ha hb q.2
    have h3 := h t h1 h2
    unfold isW at h3
    rw [q.1, wn_aa, e] at h3
    simp at h3
theorem m1p {c : Nat → va_E} {x y z : va_E} : va_up (D2 33 32 c x y) 33 z = D2 33 32 c z y := D2_pi (by decide)
theorem m2p {c : Nat → va_E} {x y z : va_E} : va_up (D2 33 32 c x y) 32 z = D2 33 32 c x z := D2_pj
theorem m3p {c : Nat → va_E} {x y z w : va_E} : D2 33 32 (D2 33 32 c x y) z w = D2 33 32 c z w := D2_D2 (by decide)
theorem m4p {c : Nat → va_E} {x y z : va_E} : D2 33 32 (va_up c 33 z) x y = D2 33 32 c x y := D2_bi
theorem m5p {c : Nat → va_E} {x y z : va_E} : D2 33 32 (va_up c 32 z) x y = D2 33 32 c x y := D2_bj (by decide)
theorem q_lt {q : Nat} (h : q < 12) : nI q - 1 < (1000 : Int32) := by
  have : ∀ q : Nat, q < 12 → nI q - 1 < (1000 : Int32) := by decide +kernel
  exact this q h

set_option maxHeartbeats 4000000 in
set_option maxRecDepth 100000 in
theorem k_X11_isAt (l : Launch) {G : GT} {c : Nat → va_E} {n n1 rn tn n2 qn : Nat} {z hd sd iz : Int32} {im : Bool} {fr tk wo : Int32} {x : Nat} (o1 : c 32 = .inr (9, [.ref (gad G 33), .ref (gad G 34), .ref (gad G 35), .int (nI n), .int (nI n1), .int z, .int hd, .int sd, .ref (gad G 36), .ref (gad G 37), .int (nI rn), .ref (gad G 38), .int (nI tn), .int fr, .int (nI x), .int tk, .int wo, .ref (gad G 39), .ref (gad G 40), .ref (gad G 41), .ref (gad G 42), .ref (gad G 43), .ref (gad G 44), .int (nI n2), .int (nI qn), .int iz, .int (bi im)])) {tf : Nat → Int32} (t8 : c 38 = .inl (gI G, 120, .inl tf)) (htn : tn ≤ 120) (hx9 : x ≤ tn) {a b : Int32} : Met l yX11_isAt (wv yX11_isAt cX11_isAt 3 (some .boolean)) ({ frames := 1, cells := 0, slots := 0, locals := 22 } : Room) (va_Pc [.ref (gad G 32), .int a, .int b] (fun U => Hw G c U U.heap)) (vp_Si (fun r => r = bi (decide (x < tn) && wn (tf x) a b))) 0 0 (fun _ => False) := by
  refine en (by decide +kernel) (by first | exact Nat.le_of_ble_eq_true rfl | decide) ?_
  intro p e s m below meth cd ls hx hb hr hml hown hts hlocks hnm hw hl
  have hl : lv_has ls 3 [(0, .ref (gad G 32)), (1, .int a), (2, .int b)] := hl
  refine lv_aload_n hx hb dX11_isAt_0 rfl (lv_at hl 0 rfl) ?_
  refine w_get (C := RX11) (T := TX11) (N := 27) 14 hx hb hts inX11 hown hw (by decide) o1 rfl (by decide) (hts _ tw_899) rfl dX11_isAt_1 ?_
  refine lv_aload_n hx hb dX11_isAt_4 rfl (lv_at hl 0 rfl) ?_
  refine w_get (C := RX11) (T := TX11) (N := 27) 12 hx hb hts inX11 hown hw (by decide) o1 rfl (by decide) (hts _ tw_897) rfl dX11_isAt_5 ?_
  refine lv_icmp_ge (tgt := 32) hx hb dX11_isAt_8 (by decide) (fun c8 => ?_) (fun c8 => ?_)
  · refine lv_iconst (v := 0) hx hb dX11_isAt_32 (by decide) ?_
    exact re_S hx hb hr hlocks (rfl) dX11_isAt_33 (bi_and (by rw [decide_eq_false (by have := (nI_leI (by omega) (by omega)).mp c8; omega)]; rfl))
  · have hlt : x < tn := (nI_ltI (by omega) (by omega)).mp (Int32.not_le.mp c8)
    refine lv_aload_n hx hb dX11_isAt_11 rfl (lv_at hl 0 rfl) ?_
    refine w_get (C := RX11) (T := TX11) (N := 27) 11 hx hb hts inX11 hown hw (by decide) o1 rfl (by decide) (hts _ tw_896) rfl dX11_isAt_12 ?_
    refine lv_aload_n hx hb dX11_isAt_15 rfl (lv_at hl 0 rfl) ?_
    refine w_get (C := RX11) (T := TX11) (N := 27) 14 hx hb hts inX11 hown hw (by decide) o1 rfl (by decide) (hts _ tw_899) rfl dX11_isAt_16 ?_
    refine w_ialdN (j := x) hx hb hw (by decide) t8 (rfl) (by omega) (by decide) dX11_isAt_19 ?_
    refine lv_iload_n hx hb dX11_isAt_20 rfl (lv_at hl 1 rfl) ?_
    refine lv_iload_n hx hb dX11_isAt_21 rfl (lv_at hl 2 rfl) ?_
    refine cSe (rST (As := [_, _, _]) ⟨hx, hb, hml, hown, hts⟩ (k_X11_in l ) (cv_X11_in hts tw_987 rfl rfl ⟨Nat.le_of_ble_eq_true rfl, Nat.le_of_ble_eq_true rfl⟩) rfl hl.1 rfl (by first | exact Nat.le_of_ble_eq_true rfl | decide) dX11_isAt_22 ⟨Nat.zero_le _, Nat.zero_le _⟩) ?_
    refine zb_eq (tgt := 32) hx hb dX11_isAt_25 (by decide) (fun c25 => ?_) (fun c25 => ?_)
    · refine lv_iconst (v := 0) hx hb dX11_isAt_32 (by decide) ?_
      exact re_S hx hb hr hlocks (rfl) dX11_isAt_33 (by simp [bi, hlt, c25])
    · refine lv_iconst (v := 1) hx hb dX11_isAt_28 (by decide) ?_
      refine lv_goto (tgt := 33) hx hb dX11_isAt_29 (by decide) ?_
      exact re_S hx hb hr hlocks (rfl) dX11_isAt_33 (by simp [bi, hlt, c25])
set_option maxHeartbeats 4000000 in
set_option maxRecDepth 100000 in
theorem k_X11_goesOn (l : Launch) {G : GT} {c : Nat → va_E} {n n1 rn tn n2 qn : Nat} {z hd sd iz : Int32} {im : Bool} {fr tk wo : Int32} {x : Nat} (o1 : c 32 = .inr (9, [.ref (gad G 33), .ref (gad G 34), .ref (gad G 35), .int (nI n), .int (nI n1), .int z, .int hd, .int sd, .ref (gad G 36), .ref (gad G 37), .int (nI rn), .ref (gad G 38), .int (nI tn), .int fr, .int (nI x), .int tk, .int wo, .ref (gad G 39), .ref (gad G 40), .ref (gad G 41), .ref (gad G 42), .ref (gad G 43), .ref (gad G 44), .int (nI n2), .int (nI qn), .int iz, .int (bi im)])) {tf : Nat → Int32} (t8 : c 38 = .inl (gI G, 120, .inl tf)) (htn : tn ≤ 120) (hx9 : x ≤ tn) : Met l yX11_goesOn (wv yX11_goesOn cX11_goesOn 1 none) ({ frames := 2, cells := 0, slots := 0, locals := 44 } : Room) (va_Pc [.ref (gad G 32)] (fun U => Hw G c U U.heap)) (va_Qv (fun c9 : Nat → va_E => c9 = va_up c 32 (.inr (9, [.ref (gad G 33), .ref (gad G 34), .ref (gad G 35), .int (nI n), .int (nI n1), .int z, .int hd, .int sd, .ref (gad G 36), .ref (gad G 37), .int (nI rn), .ref (gad G 38), .int (nI tn), .int (nI (fF tf tn x)), .int (nI (tT tf tn x)), .int (nI (kK tf tn x)), .int (wW tf tn x), .ref (gad G 39), .ref (gad G 40), .ref (gad G 41), .ref (gad G 42), .ref (gad G 43), .ref (gad G 44), .int (nI n2), .int (nI qn), .int iz, .int (bi im)]))) (fun c9 t => Hw G c9 t t.heap) (gA G)) 0 0 (gA G) := by
  refine en (by decide +kernel) (by first | exact Nat.le_of_ble_eq_true rfl | decide) ?_
  intro p e s m below meth cd ls hx hb hr hml hown hts hlocks hnm hw hl
  have hl : lv_has ls 1 [(0, .ref (gad G 32))] := hl
  have hX : Sw G s s.heap := hw.2.2.2.2.2
  have hS : va_S (gA G) s.heap s.heap [] := va_S.rf
  obtain ⟨H, hH⟩ : ∃ wz9, wz9 = s.heap := ⟨_, rfl⟩
  obtain ⟨locs, hlocs⟩ : ∃ wz9 : List Loc, wz9 = [] := ⟨_, rfl⟩
  have hw : Hw G c s H := by rw [hH]; exact hw
  have hS : va_S (gA G) s.heap H locs := by rw [hH, hlocs]; exact hS
  suffices hgo : W p l e ({ frames := 2, cells := 0, slots := 0, locals := 44 } : Room) s m (([.ref (gad G 32)] : List Value).toArray) below meth cd H locs 0 0 (MQ below (va_Qv (fun c9 : Nat → va_E => c9 = va_up c 32 (.inr (9, [.ref (gad G 33), .ref (gad G 34), .ref (gad G 35), .int (nI n), .int (nI n1), .int z, .int hd, .int sd, .ref (gad G 36), .ref (gad G 37), .int (nI rn), .ref (gad G 38), .int (nI tn), .int (nI (fF tf tn x)), .int (nI (tT tf tn x)), .int (nI (kK tf tn x)), .int (wW tf tn x), .ref (gad G 39), .ref (gad G 40), .ref (gad G 41), .ref (gad G 42), .ref (gad G 43), .ref (gad G 44), .int (nI n2), .int (nI qn), .int iz, .int (bi im)]))) (fun c9 t => Hw G c9 t t.heap) (gA G)) ([.ref (gad G 32)] : List Value).toArray s 0 0 (gA G)) (F0 m 0 ls []) by rw [hH, hlocs] at hgo; exact hgo
  have t80 := t8
  have L0 : ∀ (N : Nat) (i : Nat), (i + N = tn) → (fF tf tn x = bhd (blP tf) N i) → ∀ (c0 : Nat → va_E) (H : Heap) (locs : List Loc), (c0 = va_up c 32 (.inr (9, [.ref (gad G 33), .ref (gad G 34), .ref (gad G 35), .int (nI n), .int (nI n1), .int z, .int hd, .int sd, .ref (gad G 36), .ref (gad G 37), .int (nI rn), .ref (gad G 38), .int (nI tn), .int fr, .int (nI i), .int tk, .int wo, .ref (gad G 39), .ref (gad G 40), .ref (gad G 41), .ref (gad G 42), .ref (gad G 43), .ref (gad G 44), .int (nI n2), .int (nI qn), .int iz, .int (bi im)]))) → Hw G c0 s H → va_S (gA G) s.heap H locs → ∀ ls : Array Slot, lv_has ls 1 [(0, .ref (gad G 32))] → W p l e ({ frames := 2, cells := 0, slots := 0, locals := 44 } : Room) s m (([.ref (gad G 32)] : List Value).toArray) below meth cd H locs 0 0 (MQ below (va_Qv (fun c9 : Nat → va_E => c9 = va_up c 32 (.inr (9, [.ref (gad G 33), .ref (gad G 34), .ref (gad G 35), .int (nI n), .int (nI n1), .int z, .int hd, .int sd, .ref (gad G 36), .ref (gad G 37), .int (nI rn), .ref (gad G 38), .int (nI tn), .int (nI (fF tf tn x)), .int (nI (tT tf tn x)), .int (nI (kK tf tn x)), .int (wW tf tn x), .ref (gad G 39), .ref (gad G 40), .ref (gad G 41), .ref (gad G 42), .ref (gad G 43), .ref (gad G 44), .int (nI n2), .int (nI qn), .int iz, .int (bi im)]))) (fun c9 t => Hw G c9 t t.heap) (gA G)) ([.ref (gad G 32)] : List Value).toArray s 0 0 (gA G)) (F0 m 0 ls []) := by
    intro N
    induction N with
    | zero =>
      intro i  hN hA c0 H locs e0 hw hS ls hl
      have o1 : c0 32 = .inr (9, [.ref (gad G 33), .ref (gad G 34), .ref (gad G 35), .int (nI n), .int (nI n1), .int z, .int hd, .int sd, .ref (gad G 36), .ref (gad G 37), .int (nI rn), .ref (gad G 38), .int (nI tn), .int fr, .int (nI i), .int tk, .int wo, .ref (gad G 39), .ref (gad G 40), .ref (gad G 41), .ref (gad G 42), .ref (gad G 43), .ref (gad G 44), .int (nI n2), .int (nI qn), .int iz, .int (bi im)]) := by rw [e0]; exact vu_s
      have t8 : c0 38 = .inl (gI G, 120, .inl tf) := by rw [e0]; exact vu_e (by decide) t8
      have hFx : fF tf tn x = i := hA
      have hin : i = tn := by omega
      refine lv_aload_n hx hb dX11_goesOn_0 rfl (lv_at hl 0 rfl) ?_
      refine lv_bipush (v := 32) hx hb dX11_goesOn_1 (by decide) ?_
      refine lv_bipush (v := 32) hx hb dX11_goesOn_3 (by decide) ?_
      refine cSe (rV (As := [_, _]) ⟨hx, hb, hml, hown, hts⟩ hw (k_X11_isAt l o1 t8 htn (by omega)) (cv_X11_isAt hts tw_1218 rfl rfl ⟨Nat.le_of_ble_eq_true rfl, Nat.le_of_ble_eq_true rfl⟩) (by decide) o1 rfl rfl hl.1 rfl (by first | exact Nat.le_of_ble_eq_true rfl | decide) dX11_goesOn_5 ⟨Nat.zero_le _, Nat.zero_le _⟩) ?_
      refine zb_eq (tgt := 24) hx hb dX11_goesOn_8 (by decide) (fun c8 => ?_) (fun q => Bool.noConfusion ((show (decide (i < tn) && wn (tf i) 32 32) = false by rw [decide_eq_false (by omega)]; rfl).symm.trans q))
      refine lv_aload_n hx hb dX11_goesOn_24 rfl (lv_at hl 0 rfl) ?_
      refine lv_aload_n hx hb dX11_goesOn_25 rfl (lv_at hl 0 rfl) ?_
      refine w_get (C := RX11) (T := TX11) (N := 27) 14 hx hb hts inX11 hown hw (by decide) o1 rfl (by decide) (hts _ tw_899) rfl dX11_goesOn_26 ?_
      refine w_put (C := RX11) (T := TX11) (N := 27) (v := .int (nI i)) 13 tyX11 hx hb hts inX11 tyX11_ok nmX11 hown hw hX hS (by decide) o1 rfl (by decide) (hts _ tw_898) rfl rfl (rfl) (rfl) (Nat.le_of_ble_eq_true rfl) dX11_goesOn_29 (fun H locs hw hS => ?_)
      obtain ⟨w2, ew2⟩ : ∃ wz9 : Nat → va_E, wz9 = va_up c0 32 (.inr (9, [.ref (gad G 33), .ref (gad G 34), .ref (gad G 35), .int (nI n), .int (nI n1), .int z, .int hd, .int sd, .ref (gad G 36), .ref (gad G 37), .int (nI rn), .ref (gad G 38), .int (nI tn), .int (nI i), .int (nI i), .int tk, .int wo, .ref (gad G 39), .ref (gad G 40), .ref (gad G 41), .ref (gad G 42), .ref (gad G 43), .ref (gad G 44), .int (nI n2), .int (nI qn), .int iz, .int (bi im)])) := ⟨_, rfl⟩
      have hw : Hw G w2 s H := by rw [ew2]; exact hw
      have o1_2 : w2 32 = .inr (9, [.ref (gad G 33), .ref (gad G 34), .ref (gad G 35), .int (nI n), .int (nI n1), .int z, .int hd, .int sd, .ref (gad G 36), .ref (gad G 37), .int (nI rn), .ref (gad G 38), .int (nI tn), .int (nI i), .int (nI i), .int tk, .int wo, .ref (gad G 39), .ref (gad G 40), .ref (gad G 41), .ref (gad G 42), .ref (gad G 43), .ref (gad G 44), .int (nI n2), .int (nI qn), .int iz, .int (bi im)]) := by rw [ew2]; exact vu_s
      have t8_2 : w2 38 = .inl (gI G, 120, .inl tf) := by rw [ew2]; exact vu_e (by decide) t8
      refine lv_aload_n hx hb dX11_goesOn_32 rfl (lv_at hl 0 rfl) ?_
      refine lv_iconst (v := 0) hx hb dX11_goesOn_33 (by decide) ?_
      refine w_put (C := RX11) (T := TX11) (N := 27) (v := .int (0)) 16 tyX11 hx hb hts inX11 tyX11_ok nmX11 hown hw hX hS (by decide) o1_2 rfl (by decide) (hts _ tw_901) rfl rfl (rfl) (rfl) (Nat.le_of_ble_eq_true rfl) dX11_goesOn_34 (fun H locs hw hS => ?_)
      obtain ⟨w4, ew4⟩ : ∃ wz9 : Nat → va_E, wz9 = va_up w2 32 (.inr (9, [.ref (gad G 33), .ref (gad G 34), .ref (gad G 35), .int (nI n), .int (nI n1), .int z, .int hd, .int sd, .ref (gad G 36), .ref (gad G 37), .int (nI rn), .ref (gad G 38), .int (nI tn), .int (nI i), .int (nI i), .int tk, .int (0), .ref (gad G 39), .ref (gad G 40), .ref (gad G 41), .ref (gad G 42), .ref (gad G 43), .ref (gad G 44), .int (nI n2), .int (nI qn), .int iz, .int (bi im)])) := ⟨_, rfl⟩
      have hw : Hw G w4 s H := by rw [ew4]; exact hw
      have o1_4 : w4 32 = .inr (9, [.ref (gad G 33), .ref (gad G 34), .ref (gad G 35), .int (nI n), .int (nI n1), .int z, .int hd, .int sd, .ref (gad G 36), .ref (gad G 37), .int (nI rn), .ref (gad G 38), .int (nI tn), .int (nI i), .int (nI i), .int tk, .int (0), .ref (gad G 39), .ref (gad G 40), .ref (gad G 41), .ref (gad G 42), .ref (gad G 43), .ref (gad G 44), .int (nI n2), .int (nI qn), .int iz, .int (bi im)]) := by rw [ew4]; exact vu_s
      have t8_4 : w4 38 = .inl (gI G, 120, .inl tf) := by rw [ew4]; exact vu_e (by decide) t8_2
      refine lv_aload_n hx hb dX11_goesOn_37 rfl (lv_at hl 0 rfl) ?_
      refine w_get (C := RX11) (T := TX11) (N := 27) 14 hx hb hts inX11 hown hw (by decide) o1_4 rfl (by decide) (hts _ tw_899) rfl dX11_goesOn_38 ?_
      refine lv_aload_n hx hb dX11_goesOn_41 rfl (lv_at hl 0 rfl) ?_
      refine w_get (C := RX11) (T := TX11) (N := 27) 12 hx hb hts inX11 hown hw (by decide) o1_4 rfl (by decide) (hts _ tw_897) rfl dX11_goesOn_42 ?_
      refine lv_icmp_ne (tgt := 56) hx hb dX11_goesOn_45 (by decide) (fun q => absurd (by rw [hin]) q) (fun c45 => ?_)
      refine lv_aload_n hx hb dX11_goesOn_48 rfl (lv_at hl 0 rfl) ?_
      refine lv_iconst (v := 0) hx hb dX11_goesOn_49 (by decide) ?_
      refine w_put (C := RX11) (T := TX11) (N := 27) (v := .int (0)) 15 tyX11 hx hb hts inX11 tyX11_ok nmX11 hown hw hX hS (by decide) o1_4 rfl (by decide) (hts _ tw_900) rfl rfl (rfl) (rfl) (Nat.le_of_ble_eq_true rfl) dX11_goesOn_50 (fun H locs hw hS => ?_)
      obtain ⟨w6, ew6⟩ : ∃ wz9 : Nat → va_E, wz9 = va_up w4 32 (.inr (9, [.ref (gad G 33), .ref (gad G 34), .ref (gad G 35), .int (nI n), .int (nI n1), .int z, .int hd, .int sd, .ref (gad G 36), .ref (gad G 37), .int (nI rn), .ref (gad G 38), .int (nI tn), .int (nI i), .int (nI i), .int (0), .int (0), .ref (gad G 39), .ref (gad G 40), .ref (gad G 41), .ref (gad G 42), .ref (gad G 43), .ref (gad G 44), .int (nI n2), .int (nI qn), .int iz, .int (bi im)])) := ⟨_, rfl⟩
      have hw : Hw G w6 s H := by rw [ew6]; exact hw
      have o1_6 : w6 32 = .inr (9, [.ref (gad G 33), .ref (gad G 34), .ref (gad G 35), .int (nI n), .int (nI n1), .int z, .int hd, .int sd, .ref (gad G 36), .ref (gad G 37), .int (nI rn), .ref (gad G 38), .int (nI tn), .int (nI i), .int (nI i), .int (0), .int (0), .ref (gad G 39), .ref (gad G 40), .ref (gad G 41), .ref (gad G 42), .ref (gad G 43), .ref (gad G 44), .int (nI n2), .int (nI qn), .int iz, .int (bi im)]) := by rw [ew6]; exact vu_s
      have t8_6 : w6 38 = .inl (gI G, 120, .inl tf) := by rw [ew6]; exact vu_e (by decide) t8_4
      refine lv_goto (tgt := 207) hx hb dX11_goesOn_53 (by decide) ?_
      exact re_V hx hb hr hlocks hw hS dX11_goesOn_207 (by rw [ew6, ew4, ew2, e0]; simp only [up_up]; rw [hFx, show tT tf tn x = i by rw [tT, hFx, if_pos (by omega)], show kK tf tn x = 0 by rw [kK, hFx, if_pos (by omega)], show wW tf tn x = 0 by rw [wW, hFx, if_pos (by omega)]]; rfl)
    | succ N ih =>
      intro i  hN hA c0 H locs e0 hw hS ls hl
      have o1 : c0 32 = .inr (9, [.ref (gad G 33), .ref (gad G 34), .ref (gad G 35), .int (nI n), .int (nI n1), .int z, .int hd, .int sd, .ref (gad G 36), .ref (gad G 37), .int (nI rn), .ref (gad G 38), .int (nI tn), .int fr, .int (nI i), .int tk, .int wo, .ref (gad G 39), .ref (gad G 40), .ref (gad G 41), .ref (gad G 42), .ref (gad G 43), .ref (gad G 44), .int (nI n2), .int (nI qn), .int iz, .int (bi im)]) := by rw [e0]; exact vu_s
      have t8 : c0 38 = .inl (gI G, 120, .inl tf) := by rw [e0]; exact vu_e (by decide) t8
      have hlt : i < tn := by omega
      refine lv_aload_n hx hb dX11_goesOn_0 rfl (lv_at hl 0 rfl) ?_
      refine lv_bipush (v := 32) hx hb dX11_goesOn_1 (by decide) ?_
      refine lv_bipush (v := 32) hx hb dX11_goesOn_3 (by decide) ?_
      refine cSe (rV (As := [_, _]) ⟨hx, hb, hml, hown, hts⟩ hw (k_X11_isAt l o1 t8 htn (by omega)) (cv_X11_isAt hts tw_1218 rfl rfl ⟨Nat.le_of_ble_eq_true rfl, Nat.le_of_ble_eq_true rfl⟩) (by decide) o1 rfl rfl hl.1 rfl (by first | exact Nat.le_of_ble_eq_true rfl | decide) dX11_goesOn_5 ⟨Nat.zero_le _, Nat.zero_le _⟩) ?_
      refine zb_eq (tgt := 24) hx hb dX11_goesOn_8 (by decide) (fun c8 => ?_) (fun c8 => ?_)
      · have hFx : fF tf tn x = i := by rw [hA, bhd, if_neg (by rw [decide_eq_true hlt, Bool.true_and, wn_aa] at c8; rw [blP, c8]; decide)]
        refine lv_aload_n hx hb dX11_goesOn_24 rfl (lv_at hl 0 rfl) ?_
        refine lv_aload_n hx hb dX11_goesOn_25 rfl (lv_at hl 0 rfl) ?_
        refine w_get (C := RX11) (T := TX11) (N := 27) 14 hx hb hts inX11 hown hw (by decide) o1 rfl (by decide) (hts _ tw_899) rfl dX11_goesOn_26 ?_
        refine w_put (C := RX11) (T := TX11) (N := 27) (v := .int (nI i)) 13 tyX11 hx hb hts inX11 tyX11_ok nmX11 hown hw hX hS (by decide) o1 rfl (by decide) (hts _ tw_898) rfl rfl (rfl) (rfl) (Nat.le_of_ble_eq_true rfl) dX11_goesOn_29 (fun H locs hw hS => ?_)
        obtain ⟨w8, ew8⟩ : ∃ wz9 : Nat → va_E, wz9 = va_up c0 32 (.inr (9, [.ref (gad G 33), .ref (gad G 34), .ref (gad G 35), .int (nI n), .int (nI n1), .int z, .int hd, .int sd, .ref (gad G 36), .ref (gad G 37), .int (nI rn), .ref (gad G 38), .int (nI tn), .int (nI i), .int (nI i), .int tk, .int wo, .ref (gad G 39), .ref (gad G 40), .ref (gad G 41), .ref (gad G 42), .ref (gad G 43), .ref (gad G 44), .int (nI n2), .int (nI qn), .int iz, .int (bi im)])) := ⟨_, rfl⟩
        have hw : Hw G w8 s H := by rw [ew8]; exact hw
        have o1_8 : w8 32 = .inr (9, [.ref (gad G 33), .ref (gad G 34), .ref (gad G 35), .int (nI n), .int (nI n1), .int z, .int hd, .int sd, .ref (gad G 36), .ref (gad G 37), .int (nI rn), .ref (gad G 38), .int (nI tn), .int (nI i), .int (nI i), .int tk, .int wo, .ref (gad G 39), .ref (gad G 40), .ref (gad G 41), .ref (gad G 42), .ref (gad G 43), .ref (gad G 44), .int (nI n2), .int (nI qn), .int iz, .int (bi im)]) := by rw [ew8]; exact vu_s
        have t8_8 : w8 38 = .inl (gI G, 120, .inl tf) := by rw [ew8]; exact vu_e (by decide) t8
        refine lv_aload_n hx hb dX11_goesOn_32 rfl (lv_at hl 0 rfl) ?_
        refine lv_iconst (v := 0) hx hb dX11_goesOn_33 (by decide) ?_
        refine w_put (C := RX11) (T := TX11) (N := 27) (v := .int (0)) 16 tyX11 hx hb hts inX11 tyX11_ok nmX11 hown hw hX hS (by decide) o1_8 rfl (by decide) (hts _ tw_901) rfl rfl (rfl) (rfl) (Nat.le_of_ble_eq_true rfl) dX11_goesOn_34 (fun H locs hw hS => ?_)
        obtain ⟨w10, ew10⟩ : ∃ wz9 : Nat → va_E, wz9 = va_up w8 32 (.inr (9, [.ref (gad G 33), .ref (gad G 34), .ref (gad G 35), .int (nI n), .int (nI n1), .int z, .int hd, .int sd, .ref (gad G 36), .ref (gad G 37), .int (nI rn), .ref (gad G 38), .int (nI tn), .int (nI i), .int (nI i), .int tk, .int (0), .ref (gad G 39), .ref (gad G 40), .ref (gad G 41), .ref (gad G 42), .ref (gad G 43), .ref (gad G 44), .int (nI n2), .int (nI qn), .int iz, .int (bi im)])) := ⟨_, rfl⟩
        have hw : Hw G w10 s H := by rw [ew10]; exact hw
        have o1_10 : w10 32 = .inr (9, [.ref (gad G 33), .ref (gad G 34), .ref (gad G 35), .int (nI n), .int (nI n1), .int z, .int hd, .int sd, .ref (gad G 36), .ref (gad G 37), .int (nI rn), .ref (gad G 38), .int (nI tn), .int (nI i), .int (nI i), .int tk, .int (0), .ref (gad G 39), .ref (gad G 40), .ref (gad G 41), .ref (gad G 42), .ref (gad G 43), .ref (gad G 44), .int (nI n2), .int (nI qn), .int iz, .int (bi im)]) := by rw [ew10]; exact vu_s
        have t8_10 : w10 38 = .inl (gI G, 120, .inl tf) := by rw [ew10]; exact vu_e (by decide) t8_8
        refine lv_aload_n hx hb dX11_goesOn_37 rfl (lv_at hl 0 rfl) ?_
        refine w_get (C := RX11) (T := TX11) (N := 27) 14 hx hb hts inX11 hown hw (by decide) o1_10 rfl (by decide) (hts _ tw_899) rfl dX11_goesOn_38 ?_
        refine lv_aload_n hx hb dX11_goesOn_41 rfl (lv_at hl 0 rfl) ?_
        refine w_get (C := RX11) (T := TX11) (N := 27) 12 hx hb hts inX11 hown hw (by decide) o1_10 rfl (by decide) (hts _ tw_897) rfl dX11_goesOn_42 ?_
        refine lv_icmp_ne (tgt := 56) hx hb dX11_goesOn_45 (by decide) (fun c45 => ?_) (fun q => absurd q (fun q => absurd ((nI_eq (by omega) (by omega)).mp q) (by omega)))
        refine lv_aload_n hx hb dX11_goesOn_56 rfl (lv_at hl 0 rfl) ?_
        refine lv_bipush (v := 97) hx hb dX11_goesOn_57 (by decide) ?_
        refine lv_bipush (v := 122) hx hb dX11_goesOn_59 (by decide) ?_
        refine cSe (rV (As := [_, _]) ⟨hx, hb, hml, hown, hts⟩ hw (k_X11_isAt l o1_10 t8_10 htn (by omega)) (cv_X11_isAt hts tw_1218 rfl rfl ⟨Nat.le_of_ble_eq_true rfl, Nat.le_of_ble_eq_true rfl⟩) (by decide) o1_10 rfl rfl hl.1 rfl (by first | exact Nat.le_of_ble_eq_true rfl | decide) dX11_goesOn_61 ⟨Nat.zero_le _, Nat.zero_le _⟩) ?_
        refine zb_eq (tgt := 96) hx hb dX11_goesOn_64 (by decide) (fun c64 => ?_) (fun c64 => ?_)
        · have hc1 : ¬ leP tf i = true := by rw [decide_eq_true hlt, Bool.true_and] at c64; rw [leP, c64]; decide
          refine lv_aload_n hx hb dX11_goesOn_96 rfl (lv_at hl 0 rfl) ?_
          refine lv_bipush (v := 48) hx hb dX11_goesOn_97 (by decide) ?_
          refine lv_bipush (v := 57) hx hb dX11_goesOn_99 (by decide) ?_
          refine cSe (rV (As := [_, _]) ⟨hx, hb, hml, hown, hts⟩ hw (k_X11_isAt l o1_10 t8_10 htn (by omega)) (cv_X11_isAt hts tw_1218 rfl rfl ⟨Nat.le_of_ble_eq_true rfl, Nat.le_of_ble_eq_true rfl⟩) (by decide) o1_10 rfl rfl hl.1 rfl (by first | exact Nat.le_of_ble_eq_true rfl | decide) dX11_goesOn_101 ⟨Nat.zero_le _, Nat.zero_le _⟩) ?_
          refine zb_eq (tgt := 177) hx hb dX11_goesOn_104 (by decide) (fun c104 => ?_) (fun c104 => ?_)
          · have hc2 : ¬ diP tf i = true := by rw [decide_eq_true hlt, Bool.true_and] at c104; rw [diP, c104]; decide
            have hTx : tT tf tn x = i + 1 := by rw [tT, hFx, if_neg (by omega), if_neg hc1, if_neg hc2]
            have hWx : wW tf tn x = 0 := by rw [wW, hFx, if_neg (by omega), if_neg hc1, if_neg hc2]
            refine lv_aload_n hx hb dX11_goesOn_177 rfl (lv_at hl 0 rfl) ?_
            refine lv_aload_n hx hb dX11_goesOn_178 rfl (lv_at hl 0 rfl) ?_
            refine lv_bipush (v := 59) hx hb dX11_goesOn_179 (by decide) ?_
            refine lv_bipush (v := 59) hx hb dX11_goesOn_181 (by decide) ?_
            refine cSe (rV (As := [_, _]) ⟨hx, hb, hml, hown, hts⟩ hw (k_X11_isAt l o1_10 t8_10 htn (by omega)) (cv_X11_isAt hts tw_1218 rfl rfl ⟨Nat.le_of_ble_eq_true rfl, Nat.le_of_ble_eq_true rfl⟩) (by decide) o1_10 rfl rfl hl.1 rfl (by first | exact Nat.le_of_ble_eq_true rfl | decide) dX11_goesOn_183 ⟨Nat.zero_le _, Nat.zero_le _⟩) ?_
            refine zb_eq (tgt := 193) hx hb dX11_goesOn_186 (by decide) (fun c186 => ?_) (fun c186 => ?_)
            · have hKx : kK tf tn x = 4 := by rw [kK, hFx, if_neg (by omega), if_neg hc1, if_neg hc2, if_neg (by rw [decide_eq_true hlt, Bool.true_and, wn_aa] at c186; exact of_decide_eq_false c186)]
              refine lv_iconst (v := 4) hx hb dX11_goesOn_193 (by decide) ?_
              refine w_put (C := RX11) (T := TX11) (N := 27) (v := .int (4)) 15 tyX11 hx hb hts inX11 tyX11_ok nmX11 hown hw hX hS (by decide) o1_10 rfl (by decide) (hts _ tw_900) rfl rfl (rfl) (rfl) (Nat.le_of_ble_eq_true rfl) dX11_goesOn_194 (fun H locs hw hS => ?_)
              obtain ⟨w12, ew12⟩ : ∃ wz9 : Nat → va_E, wz9 = va_up w10 32 (.inr (9, [.ref (gad G 33), .ref (gad G 34), .ref (gad G 35), .int (nI n), .int (nI n1), .int z, .int hd, .int sd, .ref (gad G 36), .ref (gad G 37), .int (nI rn), .ref (gad G 38), .int (nI tn), .int (nI i), .int (nI i), .int (4), .int (0), .ref (gad G 39), .ref (gad G 40), .ref (gad G 41), .ref (gad G 42), .ref (gad G 43), .ref (gad G 44), .int (nI n2), .int (nI qn), .int iz, .int (bi im)])) := ⟨_, rfl⟩
              have hw : Hw G w12 s H := by rw [ew12]; exact hw
              have o1_12 : w12 32 = .inr (9, [.ref (gad G 33), .ref (gad G 34), .ref (gad G 35), .int (nI n), .int (nI n1), .int z, .int hd, .int sd, .ref (gad G 36), .ref (gad G 37), .int (nI rn), .ref (gad G 38), .int (nI tn), .int (nI i), .int (nI i), .int (4), .int (0), .ref (gad G 39), .ref (gad G 40), .ref (gad G 41), .ref (gad G 42), .ref (gad G 43), .ref (gad G 44), .int (nI n2), .int (nI qn), .int iz, .int (bi im)]) := by rw [ew12]; exact vu_s
              have t8_12 : w12 38 = .inl (gI G, 120, .inl tf) := by rw [ew12]; exact vu_e (by decide) t8_10
              refine lv_aload_n hx hb dX11_goesOn_197 rfl (lv_at hl 0 rfl) ?_
              refine lv_dup hx hb dX11_goesOn_198 rfl ?_
              refine w_get (C := RX11) (T := TX11) (N := 27) 14 hx hb hts inX11 hown hw (by decide) o1_12 rfl (by decide) (hts _ tw_899) rfl dX11_goesOn_199 ?_
              refine lv_iconst (v := 1) hx hb dX11_goesOn_202 (by decide) ?_
              refine lv_iadd hx hb dX11_goesOn_203 ?_
              refine tp (y := nI (i + 1)) (nI_1 _) ?_
              refine w_put (C := RX11) (T := TX11) (N := 27) (v := .int (nI (i + 1))) 14 tyX11 hx hb hts inX11 tyX11_ok nmX11 hown hw hX hS (by decide) o1_12 rfl (by decide) (hts _ tw_899) rfl rfl (rfl) (rfl) (Nat.le_of_ble_eq_true rfl) dX11_goesOn_204 (fun H locs hw hS => ?_)
              obtain ⟨w14, ew14⟩ : ∃ wz9 : Nat → va_E, wz9 = va_up w12 32 (.inr (9, [.ref (gad G 33), .ref (gad G 34), .ref (gad G 35), .int (nI n), .int (nI n1), .int z, .int hd, .int sd, .ref (gad G 36), .ref (gad G 37), .int (nI rn), .ref (gad G 38), .int (nI tn), .int (nI i), .int (nI (i + 1)), .int (4), .int (0), .ref (gad G 39), .ref (gad G 40), .ref (gad G 41), .ref (gad G 42), .ref (gad G 43), .ref (gad G 44), .int (nI n2), .int (nI qn), .int iz, .int (bi im)])) := ⟨_, rfl⟩
              have hw : Hw G w14 s H := by rw [ew14]; exact hw
              have o1_14 : w14 32 = .inr (9, [.ref (gad G 33), .ref (gad G 34), .ref (gad G 35), .int (nI n), .int (nI n1), .int z, .int hd, .int sd, .ref (gad G 36), .ref (gad G 37), .int (nI rn), .ref (gad G 38), .int (nI tn), .int (nI i), .int (nI (i + 1)), .int (4), .int (0), .ref (gad G 39), .ref (gad G 40), .ref (gad G 41), .ref (gad G 42), .ref (gad G 43), .ref (gad G 44), .int (nI n2), .int (nI qn), .int iz, .int (bi im)]) := by rw [ew14]; exact vu_s
              have t8_14 : w14 38 = .inl (gI G, 120, .inl tf) := by rw [ew14]; exact vu_e (by decide) t8_12
              exact re_V hx hb hr hlocks hw hS dX11_goesOn_207 (by rw [ew14, ew12, ew10, ew8, e0]; simp only [up_up]; rw [hFx, hTx, hKx, hWx]; rfl)
            · have hKx : kK tf tn x = 3 := by rw [kK, hFx, if_neg (by omega), if_neg hc1, if_neg hc2, if_pos (by rw [decide_eq_true hlt, Bool.true_and, wn_aa] at c186; exact of_decide_eq_true c186)]
              refine lv_iconst (v := 3) hx hb dX11_goesOn_189 (by decide) ?_
              refine lv_goto (tgt := 194) hx hb dX11_goesOn_190 (by decide) ?_
              refine w_put (C := RX11) (T := TX11) (N := 27) (v := .int (3)) 15 tyX11 hx hb hts inX11 tyX11_ok nmX11 hown hw hX hS (by decide) o1_10 rfl (by decide) (hts _ tw_900) rfl rfl (rfl) (rfl) (Nat.le_of_ble_eq_true rfl) dX11_goesOn_194 (fun H locs hw hS => ?_)
              obtain ⟨w16, ew16⟩ : ∃ wz9 : Nat → va_E, wz9 = va_up w10 32 (.inr (9, [.ref (gad G 33), .ref (gad G 34), .ref (gad G 35), .int (nI n), .int (nI n1), .int z, .int hd, .int sd, .ref (gad G 36), .ref (gad G 37), .int (nI rn), .ref (gad G 38), .int (nI tn), .int (nI i), .int (nI i), .int (3), .int (0), .ref (gad G 39), .ref (gad G 40), .ref (gad G 41), .ref (gad G 42), .ref (gad G 43), .ref (gad G 44), .int (nI n2), .int (nI qn), .int iz, .int (bi im)])) := ⟨_, rfl⟩
              have hw : Hw G w16 s H := by rw [ew16]; exact hw
              have o1_16 : w16 32 = .inr (9, [.ref (gad G 33), .ref (gad G 34), .ref (gad G 35), .int (nI n), .int (nI n1), .int z, .int hd, .int sd, .ref (gad G 36), .ref (gad G 37), .int (nI rn), .ref (gad G 38), .int (nI tn), .int (nI i), .int (nI i), .int (3), .int (0), .ref (gad G 39), .ref (gad G 40), .ref (gad G 41), .ref (gad G 42), .ref (gad G 43), .ref (gad G 44), .int (nI n2), .int (nI qn), .int iz, .int (bi im)]) := by rw [ew16]; exact vu_s
              have t8_16 : w16 38 = .inl (gI G, 120, .inl tf) := by rw [ew16]; exact vu_e (by decide) t8_10
              refine lv_aload_n hx hb dX11_goesOn_197 rfl (lv_at hl 0 rfl) ?_
              refine lv_dup hx hb dX11_goesOn_198 rfl ?_
              refine w_get (C := RX11) (T := TX11) (N := 27) 14 hx hb hts inX11 hown hw (by decide) o1_16 rfl (by decide) (hts _ tw_899) rfl dX11_goesOn_199 ?_
              refine lv_iconst (v := 1) hx hb dX11_goesOn_202 (by decide) ?_
              refine lv_iadd hx hb dX11_goesOn_203 ?_
              refine tp (y := nI (i + 1)) (nI_1 _) ?_
              refine w_put (C := RX11) (T := TX11) (N := 27) (v := .int (nI (i + 1))) 14 tyX11 hx hb hts inX11 tyX11_ok nmX11 hown hw hX hS (by decide) o1_16 rfl (by decide) (hts _ tw_899) rfl rfl (rfl) (rfl) (Nat.le_of_ble_eq_true rfl) dX11_goesOn_204 (fun H locs hw hS => ?_)
              obtain ⟨w18, ew18⟩ : ∃ wz9 : Nat → va_E, wz9 = va_up w16 32 (.inr (9, [.ref (gad G 33), .ref (gad G 34), .ref (gad G 35), .int (nI n), .int (nI n1), .int z, .int hd, .int sd, .ref (gad G 36), .ref (gad G 37), .int (nI rn), .ref (gad G 38), .int (nI tn), .int (nI i), .int (nI (i + 1)), .int (3), .int (0), .ref (gad G 39), .ref (gad G 40), .ref (gad G 41), .ref (gad G 42), .ref (gad G 43), .ref (gad G 44), .int (nI n2), .int (nI qn), .int iz, .int (bi im)])) := ⟨_, rfl⟩
              have hw : Hw G w18 s H := by rw [ew18]; exact hw
              have o1_18 : w18 32 = .inr (9, [.ref (gad G 33), .ref (gad G 34), .ref (gad G 35), .int (nI n), .int (nI n1), .int z, .int hd, .int sd, .ref (gad G 36), .ref (gad G 37), .int (nI rn), .ref (gad G 38), .int (nI tn), .int (nI i), .int (nI (i + 1)), .int (3), .int (0), .ref (gad G 39), .ref (gad G 40), .ref (gad G 41), .ref (gad G 42), .ref (gad G 43), .ref (gad G 44), .int (nI n2), .int (nI qn), .int iz, .int (bi im)]) := by rw [ew18]; exact vu_s
              have t8_18 : w18 38 = .inl (gI G, 120, .inl tf) := by rw [ew18]; exact vu_e (by decide) t8_16
              exact re_V hx hb hr hlocks hw hS dX11_goesOn_207 (by rw [ew18, ew16, ew10, ew8, e0]; simp only [up_up]; rw [hFx, hTx, hKx, hWx]; rfl)
          · have hc2 : diP tf i = true := by rw [decide_eq_true hlt, Bool.true_and] at c104; exact c104
            have hTx : tT tf tn x = bhd (diP tf) (tn - i) i := by rw [tT, hFx, if_neg (by omega), if_neg hc1, if_pos hc2]
            have hKx : kK tf tn x = 2 := by rw [kK, hFx, if_neg (by omega), if_neg hc1, if_pos hc2]
            have hWx : wW tf tn x = nmR tf i (tT tf tn x - i) := by rw [wW, hFx, if_neg (by omega), if_neg hc1, if_pos hc2]
            refine lv_aload_n hx hb dX11_goesOn_107 rfl (lv_at hl 0 rfl) ?_
            refine lv_iconst (v := 2) hx hb dX11_goesOn_108 (by decide) ?_
            refine w_put (C := RX11) (T := TX11) (N := 27) (v := .int (2)) 15 tyX11 hx hb hts inX11 tyX11_ok nmX11 hown hw hX hS (by decide) o1_10 rfl (by decide) (hts _ tw_900) rfl rfl (rfl) (rfl) (Nat.le_of_ble_eq_true rfl) dX11_goesOn_109 (fun H locs hw hS => ?_)
            obtain ⟨w20, ew20⟩ : ∃ wz9 : Nat → va_E, wz9 = va_up w10 32 (.inr (9, [.ref (gad G 33), .ref (gad G 34), .ref (gad G 35), .int (nI n), .int (nI n1), .int z, .int hd, .int sd, .ref (gad G 36), .ref (gad G 37), .int (nI rn), .ref (gad G 38), .int (nI tn), .int (nI i), .int (nI i), .int (2), .int (0), .ref (gad G 39), .ref (gad G 40), .ref (gad G 41), .ref (gad G 42), .ref (gad G 43), .ref (gad G 44), .int (nI n2), .int (nI qn), .int iz, .int (bi im)])) := ⟨_, rfl⟩
            have hw : Hw G w20 s H := by rw [ew20]; exact hw
            have o1_20 : w20 32 = .inr (9, [.ref (gad G 33), .ref (gad G 34), .ref (gad G 35), .int (nI n), .int (nI n1), .int z, .int hd, .int sd, .ref (gad G 36), .ref (gad G 37), .int (nI rn), .ref (gad G 38), .int (nI tn), .int (nI i), .int (nI i), .int (2), .int (0), .ref (gad G 39), .ref (gad G 40), .ref (gad G 41), .ref (gad G 42), .ref (gad G 43), .ref (gad G 44), .int (nI n2), .int (nI qn), .int iz, .int (bi im)]) := by rw [ew20]; exact vu_s
            have t8_20 : w20 38 = .inl (gI G, 120, .inl tf) := by rw [ew20]; exact vu_e (by decide) t8_10
            have L112 : ∀ (N : Nat) (j : Nat) (v : Int32), (j + N = tn) → (i ≤ j) → (tT tf tn x = bhd (diP tf) N j) → (v = nmR tf i (j - i)) → ∀ (c0 : Nat → va_E) (H : Heap) (locs : List Loc), (c0 = va_up c 32 (.inr (9, [.ref (gad G 33), .ref (gad G 34), .ref (gad G 35), .int (nI n), .int (nI n1), .int z, .int hd, .int sd, .ref (gad G 36), .ref (gad G 37), .int (nI rn), .ref (gad G 38), .int (nI tn), .int (nI i), .int (nI j), .int (2), .int (v), .ref (gad G 39), .ref (gad G 40), .ref (gad G 41), .ref (gad G 42), .ref (gad G 43), .ref (gad G 44), .int (nI n2), .int (nI qn), .int iz, .int (bi im)]))) → Hw G c0 s H → va_S (gA G) s.heap H locs → ∀ ls : Array Slot, lv_has ls 1 [(0, .ref (gad G 32))] → W p l e ({ frames := 2, cells := 0, slots := 0, locals := 44 } : Room) s m (([.ref (gad G 32)] : List Value).toArray) below meth cd H locs 0 0 (MQ below (va_Qv (fun c9 : Nat → va_E => c9 = va_up c 32 (.inr (9, [.ref (gad G 33), .ref (gad G 34), .ref (gad G 35), .int (nI n), .int (nI n1), .int z, .int hd, .int sd, .ref (gad G 36), .ref (gad G 37), .int (nI rn), .ref (gad G 38), .int (nI tn), .int (nI (fF tf tn x)), .int (nI (tT tf tn x)), .int (nI (kK tf tn x)), .int (wW tf tn x), .ref (gad G 39), .ref (gad G 40), .ref (gad G 41), .ref (gad G 42), .ref (gad G 43), .ref (gad G 44), .int (nI n2), .int (nI qn), .int iz, .int (bi im)]))) (fun c9 t => Hw G c9 t t.heap) (gA G)) ([.ref (gad G 32)] : List Value).toArray s 0 0 (gA G)) (F0 m 112 ls []) := by
              intro N
              induction N with
              | zero =>
                intro j  v  hN7 hij hA7 hv c0 H locs e0 hw hS ls hl
                have o1 : c0 32 = .inr (9, [.ref (gad G 33), .ref (gad G 34), .ref (gad G 35), .int (nI n), .int (nI n1), .int z, .int hd, .int sd, .ref (gad G 36), .ref (gad G 37), .int (nI rn), .ref (gad G 38), .int (nI tn), .int (nI i), .int (nI j), .int (2), .int (v), .ref (gad G 39), .ref (gad G 40), .ref (gad G 41), .ref (gad G 42), .ref (gad G 43), .ref (gad G 44), .int (nI n2), .int (nI qn), .int iz, .int (bi im)]) := by rw [e0]; exact vu_s
                have t8 : c0 38 = .inl (gI G, 120, .inl tf) := by rw [e0]; exact vu_e (by decide) t80
                have hTj : tT tf tn x = j := hA7
                refine lv_aload_n hx hb dX11_goesOn_112 rfl (lv_at hl 0 rfl) ?_
                refine lv_bipush (v := 48) hx hb dX11_goesOn_113 (by decide) ?_
                refine lv_bipush (v := 57) hx hb dX11_goesOn_115 (by decide) ?_
                refine cSe (rV (As := [_, _]) ⟨hx, hb, hml, hown, hts⟩ hw (k_X11_isAt l o1 t8 htn (by omega)) (cv_X11_isAt hts tw_1218 rfl rfl ⟨Nat.le_of_ble_eq_true rfl, Nat.le_of_ble_eq_true rfl⟩) (by decide) o1 rfl rfl hl.1 rfl (by first | exact Nat.le_of_ble_eq_true rfl | decide) dX11_goesOn_117 ⟨Nat.zero_le _, Nat.zero_le _⟩) ?_
                refine zb_eq (tgt := 207) hx hb dX11_goesOn_120 (by decide) (fun c120 => ?_) (fun q => Bool.noConfusion ((show (decide (j < tn) && wn (tf j) 48 57) = false by rw [decide_eq_false (by omega)]; rfl).symm.trans q))
                exact re_V hx hb hr hlocks hw hS dX11_goesOn_207 (by rw [e0, hFx, hKx, hWx, hTj, hv]; rfl)
              | succ N ih =>
                intro j  v  hN7 hij hA7 hv c0 H locs e0 hw hS ls hl
                have o1 : c0 32 = .inr (9, [.ref (gad G 33), .ref (gad G 34), .ref (gad G 35), .int (nI n), .int (nI n1), .int z, .int hd, .int sd, .ref (gad G 36), .ref (gad G 37), .int (nI rn), .ref (gad G 38), .int (nI tn), .int (nI i), .int (nI j), .int (2), .int (v), .ref (gad G 39), .ref (gad G 40), .ref (gad G 41), .ref (gad G 42), .ref (gad G 43), .ref (gad G 44), .int (nI n2), .int (nI qn), .int iz, .int (bi im)]) := by rw [e0]; exact vu_s
                have t8 : c0 38 = .inl (gI G, 120, .inl tf) := by rw [e0]; exact vu_e (by decide) t80
                have hlj : j < tn := by omega
                refine lv_aload_n hx hb dX11_goesOn_112 rfl (lv_at hl 0 rfl) ?_
                refine lv_bipush (v := 48) hx hb dX11_goesOn_113 (by decide) ?_
                refine lv_bipush (v := 57) hx hb dX11_goesOn_115 (by decide) ?_
                refine cSe (rV (As := [_, _]) ⟨hx, hb, hml, hown, hts⟩ hw (k_X11_isAt l o1 t8 htn (by omega)) (cv_X11_isAt hts tw_1218 rfl rfl ⟨Nat.le_of_ble_eq_true rfl, Nat.le_of_ble_eq_true rfl⟩) (by decide) o1 rfl rfl hl.1 rfl (by first | exact Nat.le_of_ble_eq_true rfl | decide) dX11_goesOn_117 ⟨Nat.zero_le _, Nat.zero_le _⟩) ?_
                refine zb_eq (tgt := 207) hx hb dX11_goesOn_120 (by decide) (fun c120 => ?_) (fun c120 => ?_)
                · have hTj : tT tf tn x = j := by rw [hA7, bhd, if_neg (by rw [decide_eq_true hlj, Bool.true_and] at c120; rw [diP, c120]; decide)]
                  exact re_V hx hb hr hlocks hw hS dX11_goesOn_207 (by rw [e0, hFx, hKx, hWx, hTj, hv]; rfl)
                · have hlp : diP tf j = true := by rw [decide_eq_true hlj, Bool.true_and] at c120; exact c120
                  have hji : j + 1 - i = (j - i) + 1 := by omega
                  have hji2 : i + (j - i) = j := by omega
                  refine lv_aload_n hx hb dX11_goesOn_123 rfl (lv_at hl 0 rfl) ?_
                  refine lv_aload_n hx hb dX11_goesOn_124 rfl (lv_at hl 0 rfl) ?_
                  refine w_get (C := RX11) (T := TX11) (N := 27) 16 hx hb hts inX11 hown hw (by decide) o1 rfl (by decide) (hts _ tw_901) rfl dX11_goesOn_125 ?_
                  refine lv_sipush (v := 999) hx hb dX11_goesOn_128 (by decide) ?_
                  refine lv_icmp_le (tgt := 141) hx hb dX11_goesOn_131 (by decide) (fun c131 => ?_) (fun c131 => ?_)
                  · skip
                    refine lv_bipush (v := 10) hx hb dX11_goesOn_141 (by decide) ?_
                    refine lv_aload_n hx hb dX11_goesOn_143 rfl (lv_at hl 0 rfl) ?_
                    refine w_get (C := RX11) (T := TX11) (N := 27) 16 hx hb hts inX11 hown hw (by decide) o1 rfl (by decide) (hts _ tw_901) rfl dX11_goesOn_144 ?_
                    refine lv_imul hx hb dX11_goesOn_147 ?_
                    refine lv_aload_n hx hb dX11_goesOn_148 rfl (lv_at hl 0 rfl) ?_
                    refine w_get (C := RX11) (T := TX11) (N := 27) 11 hx hb hts inX11 hown hw (by decide) o1 rfl (by decide) (hts _ tw_896) rfl dX11_goesOn_149 ?_
                    refine lv_aload_n hx hb dX11_goesOn_152 rfl (lv_at hl 0 rfl) ?_
                    refine w_get (C := RX11) (T := TX11) (N := 27) 14 hx hb hts inX11 hown hw (by decide) o1 rfl (by decide) (hts _ tw_899) rfl dX11_goesOn_153 ?_
                    refine w_ialdN (j := j) hx hb hw (by decide) t8 (rfl) (by omega) (by decide) dX11_goesOn_156 ?_
                    refine lv_iadd hx hb dX11_goesOn_157 ?_
                    refine lv_bipush (v := 48) hx hb dX11_goesOn_158 (by decide) ?_
                    refine lv_isub hx hb dX11_goesOn_160 ?_
                    refine tp (y := nmR tf i (j + 1 - i)) (by rw [hji, nmR, ← hv, hji2, if_neg (Int32.not_lt.mpr c131)]) ?_
                    refine w_put (C := RX11) (T := TX11) (N := 27) (v := .int (nmR tf i (j + 1 - i))) 16 tyX11 hx hb hts inX11 tyX11_ok nmX11 hown hw hX hS (by decide) o1 rfl (by decide) (hts _ tw_901) rfl rfl (rfl) (rfl) (Nat.le_of_ble_eq_true rfl) dX11_goesOn_161 (fun H locs hw hS => ?_)
                    obtain ⟨w22, ew22⟩ : ∃ wz9 : Nat → va_E, wz9 = va_up c0 32 (.inr (9, [.ref (gad G 33), .ref (gad G 34), .ref (gad G 35), .int (nI n), .int (nI n1), .int z, .int hd, .int sd, .ref (gad G 36), .ref (gad G 37), .int (nI rn), .ref (gad G 38), .int (nI tn), .int (nI i), .int (nI j), .int (2), .int (nmR tf i (j + 1 - i)), .ref (gad G 39), .ref (gad G 40), .ref (gad G 41), .ref (gad G 42), .ref (gad G 43), .ref (gad G 44), .int (nI n2), .int (nI qn), .int iz, .int (bi im)])) := ⟨_, rfl⟩
                    have hw : Hw G w22 s H := by rw [ew22]; exact hw
                    have o1_22 : w22 32 = .inr (9, [.ref (gad G 33), .ref (gad G 34), .ref (gad G 35), .int (nI n), .int (nI n1), .int z, .int hd, .int sd, .ref (gad G 36), .ref (gad G 37), .int (nI rn), .ref (gad G 38), .int (nI tn), .int (nI i), .int (nI j), .int (2), .int (nmR tf i (j + 1 - i)), .ref (gad G 39), .ref (gad G 40), .ref (gad G 41), .ref (gad G 42), .ref (gad G 43), .ref (gad G 44), .int (nI n2), .int (nI qn), .int iz, .int (bi im)]) := by rw [ew22]; exact vu_s
                    have t8_22 : w22 38 = .inl (gI G, 120, .inl tf) := by rw [ew22]; exact vu_e (by decide) t8
                    refine lv_aload_n hx hb dX11_goesOn_164 rfl (lv_at hl 0 rfl) ?_
                    refine lv_dup hx hb dX11_goesOn_165 rfl ?_
                    refine w_get (C := RX11) (T := TX11) (N := 27) 14 hx hb hts inX11 hown hw (by decide) o1_22 rfl (by decide) (hts _ tw_899) rfl dX11_goesOn_166 ?_
                    refine lv_iconst (v := 1) hx hb dX11_goesOn_169 (by decide) ?_
                    refine lv_iadd hx hb dX11_goesOn_170 ?_
                    refine tp (y := nI (j + 1)) (nI_1 _) ?_
                    refine w_put (C := RX11) (T := TX11) (N := 27) (v := .int (nI (j + 1))) 14 tyX11 hx hb hts inX11 tyX11_ok nmX11 hown hw hX hS (by decide) o1_22 rfl (by decide) (hts _ tw_899) rfl rfl (rfl) (rfl) (Nat.le_of_ble_eq_true rfl) dX11_goesOn_171 (fun H locs hw hS => ?_)
                    obtain ⟨w24, ew24⟩ : ∃ wz9 : Nat → va_E, wz9 = va_up w22 32 (.inr (9, [.ref (gad G 33), .ref (gad G 34), .ref (gad G 35), .int (nI n), .int (nI n1), .int z, .int hd, .int sd, .ref (gad G 36), .ref (gad G 37), .int (nI rn), .ref (gad G 38), .int (nI tn), .int (nI i), .int (nI (j + 1)), .int (2), .int (nmR tf i (j + 1 - i)), .ref (gad G 39), .ref (gad G 40), .ref (gad G 41), .ref (gad G 42), .ref (gad G 43), .ref (gad G 44), .int (nI n2), .int (nI qn), .int iz, .int (bi im)])) := ⟨_, rfl⟩
                    have hw : Hw G w24 s H := by rw [ew24]; exact hw
                    have o1_24 : w24 32 = .inr (9, [.ref (gad G 33), .ref (gad G 34), .ref (gad G 35), .int (nI n), .int (nI n1), .int z, .int hd, .int sd, .ref (gad G 36), .ref (gad G 37), .int (nI rn), .ref (gad G 38), .int (nI tn), .int (nI i), .int (nI (j + 1)), .int (2), .int (nmR tf i (j + 1 - i)), .ref (gad G 39), .ref (gad G 40), .ref (gad G 41), .ref (gad G 42), .ref (gad G 43), .ref (gad G 44), .int (nI n2), .int (nI qn), .int iz, .int (bi im)]) := by rw [ew24]; exact vu_s
                    have t8_24 : w24 38 = .inl (gI G, 120, .inl tf) := by rw [ew24]; exact vu_e (by decide) t8_22
                    refine lv_goto (tgt := 112) hx hb dX11_goesOn_174 (by decide) ?_
                    exact ih (j + 1) _ (by omega) (by omega) (by rw [hA7, bhd, if_pos hlp]) rfl _ H locs (by rw [ew24, ew22, e0]; simp only [up_up]) hw hS ls (lv_sub hl [0] rfl)
                  · refine lv_aload_n hx hb dX11_goesOn_134 rfl (lv_at hl 0 rfl) ?_
                    refine w_get (C := RX11) (T := TX11) (N := 27) 16 hx hb hts inX11 hown hw (by decide) o1 rfl (by decide) (hts _ tw_901) rfl dX11_goesOn_135 ?_
                    refine lv_goto (tgt := 161) hx hb dX11_goesOn_138 (by decide) ?_
                    refine tp (y := nmR tf i (j + 1 - i)) (by rw [hji, nmR, ← hv, hji2, if_pos (Int32.not_le.mp c131)]) ?_
                    refine w_put (C := RX11) (T := TX11) (N := 27) (v := .int (nmR tf i (j + 1 - i))) 16 tyX11 hx hb hts inX11 tyX11_ok nmX11 hown hw hX hS (by decide) o1 rfl (by decide) (hts _ tw_901) rfl rfl (rfl) (rfl) (Nat.le_of_ble_eq_true rfl) dX11_goesOn_161 (fun H locs hw hS => ?_)
                    obtain ⟨w26, ew26⟩ : ∃ wz9 : Nat → va_E, wz9 = va_up c0 32 (.inr (9, [.ref (gad G 33), .ref (gad G 34), .ref (gad G 35), .int (nI n), .int (nI n1), .int z, .int hd, .int sd, .ref (gad G 36), .ref (gad G 37), .int (nI rn), .ref (gad G 38), .int (nI tn), .int (nI i), .int (nI j), .int (2), .int (nmR tf i (j + 1 - i)), .ref (gad G 39), .ref (gad G 40), .ref (gad G 41), .ref (gad G 42), .ref (gad G 43), .ref (gad G 44), .int (nI n2), .int (nI qn), .int iz, .int (bi im)])) := ⟨_, rfl⟩
                    have hw : Hw G w26 s H := by rw [ew26]; exact hw
                    have o1_26 : w26 32 = .inr (9, [.ref (gad G 33), .ref (gad G 34), .ref (gad G 35), .int (nI n), .int (nI n1), .int z, .int hd, .int sd, .ref (gad G 36), .ref (gad G 37), .int (nI rn), .ref (gad G 38), .int (nI tn), .int (nI i), .int (nI j), .int (2), .int (nmR tf i (j + 1 - i)), .ref (gad G 39), .ref (gad G 40), .ref (gad G 41), .ref (gad G 42), .ref (gad G 43), .ref (gad G 44), .int (nI n2), .int (nI qn), .int iz, .int (bi im)]) := by rw [ew26]; exact vu_s
                    have t8_26 : w26 38 = .inl (gI G, 120, .inl tf) := by rw [ew26]; exact vu_e (by decide) t8
                    refine lv_aload_n hx hb dX11_goesOn_164 rfl (lv_at hl 0 rfl) ?_
                    refine lv_dup hx hb dX11_goesOn_165 rfl ?_
                    refine w_get (C := RX11) (T := TX11) (N := 27) 14 hx hb hts inX11 hown hw (by decide) o1_26 rfl (by decide) (hts _ tw_899) rfl dX11_goesOn_166 ?_
                    refine lv_iconst (v := 1) hx hb dX11_goesOn_169 (by decide) ?_
                    refine lv_iadd hx hb dX11_goesOn_170 ?_
                    refine tp (y := nI (j + 1)) (nI_1 _) ?_
                    refine w_put (C := RX11) (T := TX11) (N := 27) (v := .int (nI (j + 1))) 14 tyX11 hx hb hts inX11 tyX11_ok nmX11 hown hw hX hS (by decide) o1_26 rfl (by decide) (hts _ tw_899) rfl rfl (rfl) (rfl) (Nat.le_of_ble_eq_true rfl) dX11_goesOn_171 (fun H locs hw hS => ?_)
                    obtain ⟨w28, ew28⟩ : ∃ wz9 : Nat → va_E, wz9 = va_up w26 32 (.inr (9, [.ref (gad G 33), .ref (gad G 34), .ref (gad G 35), .int (nI n), .int (nI n1), .int z, .int hd, .int sd, .ref (gad G 36), .ref (gad G 37), .int (nI rn), .ref (gad G 38), .int (nI tn), .int (nI i), .int (nI (j + 1)), .int (2), .int (nmR tf i (j + 1 - i)), .ref (gad G 39), .ref (gad G 40), .ref (gad G 41), .ref (gad G 42), .ref (gad G 43), .ref (gad G 44), .int (nI n2), .int (nI qn), .int iz, .int (bi im)])) := ⟨_, rfl⟩
                    have hw : Hw G w28 s H := by rw [ew28]; exact hw
                    have o1_28 : w28 32 = .inr (9, [.ref (gad G 33), .ref (gad G 34), .ref (gad G 35), .int (nI n), .int (nI n1), .int z, .int hd, .int sd, .ref (gad G 36), .ref (gad G 37), .int (nI rn), .ref (gad G 38), .int (nI tn), .int (nI i), .int (nI (j + 1)), .int (2), .int (nmR tf i (j + 1 - i)), .ref (gad G 39), .ref (gad G 40), .ref (gad G 41), .ref (gad G 42), .ref (gad G 43), .ref (gad G 44), .int (nI n2), .int (nI qn), .int iz, .int (bi im)]) := by rw [ew28]; exact vu_s
                    have t8_28 : w28 38 = .inl (gI G, 120, .inl tf) := by rw [ew28]; exact vu_e (by decide) t8_26
                    refine lv_goto (tgt := 112) hx hb dX11_goesOn_174 (by decide) ?_
                    exact ih (j + 1) _ (by omega) (by omega) (by rw [hA7, bhd, if_pos hlp]) rfl _ H locs (by rw [ew28, ew26, e0]; simp only [up_up]) hw hS ls (lv_sub hl [0] rfl)
            exact L112 (tn - i) i 0 (by omega) (Nat.le_refl i) hTx (by rw [Nat.sub_self]; rfl) _ H locs (by rw [ew20, ew10, ew8, e0]; simp only [up_up]) hw hS ls (lv_sub hl [0] rfl)
        · have hc1 : leP tf i = true := by rw [decide_eq_true hlt, Bool.true_and] at c64; exact c64
          have hTx : tT tf tn x = bhd (leP tf) (tn - i) i := by rw [tT, hFx, if_neg (by omega), if_pos hc1]
          have hKx : kK tf tn x = 1 := by rw [kK, hFx, if_neg (by omega), if_pos hc1]
          have hWx : wW tf tn x = 0 := by rw [wW, hFx, if_neg (by omega), if_pos hc1]
          refine lv_aload_n hx hb dX11_goesOn_67 rfl (lv_at hl 0 rfl) ?_
          refine lv_iconst (v := 1) hx hb dX11_goesOn_68 (by decide) ?_
          refine w_put (C := RX11) (T := TX11) (N := 27) (v := .int (1)) 15 tyX11 hx hb hts inX11 tyX11_ok nmX11 hown hw hX hS (by decide) o1_10 rfl (by decide) (hts _ tw_900) rfl rfl (rfl) (rfl) (Nat.le_of_ble_eq_true rfl) dX11_goesOn_69 (fun H locs hw hS => ?_)
          obtain ⟨w30, ew30⟩ : ∃ wz9 : Nat → va_E, wz9 = va_up w10 32 (.inr (9, [.ref (gad G 33), .ref (gad G 34), .ref (gad G 35), .int (nI n), .int (nI n1), .int z, .int hd, .int sd, .ref (gad G 36), .ref (gad G 37), .int (nI rn), .ref (gad G 38), .int (nI tn), .int (nI i), .int (nI i), .int (1), .int (0), .ref (gad G 39), .ref (gad G 40), .ref (gad G 41), .ref (gad G 42), .ref (gad G 43), .ref (gad G 44), .int (nI n2), .int (nI qn), .int iz, .int (bi im)])) := ⟨_, rfl⟩
          have hw : Hw G w30 s H := by rw [ew30]; exact hw
          have o1_30 : w30 32 = .inr (9, [.ref (gad G 33), .ref (gad G 34), .ref (gad G 35), .int (nI n), .int (nI n1), .int z, .int hd, .int sd, .ref (gad G 36), .ref (gad G 37), .int (nI rn), .ref (gad G 38), .int (nI tn), .int (nI i), .int (nI i), .int (1), .int (0), .ref (gad G 39), .ref (gad G 40), .ref (gad G 41), .ref (gad G 42), .ref (gad G 43), .ref (gad G 44), .int (nI n2), .int (nI qn), .int iz, .int (bi im)]) := by rw [ew30]; exact vu_s
          have t8_30 : w30 38 = .inl (gI G, 120, .inl tf) := by rw [ew30]; exact vu_e (by decide) t8_10
          have L72 : ∀ (N : Nat) (j : Nat), (j + N = tn) → (tT tf tn x = bhd (leP tf) N j) → ∀ (c0 : Nat → va_E) (H : Heap) (locs : List Loc), (c0 = va_up c 32 (.inr (9, [.ref (gad G 33), .ref (gad G 34), .ref (gad G 35), .int (nI n), .int (nI n1), .int z, .int hd, .int sd, .ref (gad G 36), .ref (gad G 37), .int (nI rn), .ref (gad G 38), .int (nI tn), .int (nI i), .int (nI j), .int (1), .int (0), .ref (gad G 39), .ref (gad G 40), .ref (gad G 41), .ref (gad G 42), .ref (gad G 43), .ref (gad G 44), .int (nI n2), .int (nI qn), .int iz, .int (bi im)]))) → Hw G c0 s H → va_S (gA G) s.heap H locs → ∀ ls : Array Slot, lv_has ls 1 [(0, .ref (gad G 32))] → W p l e ({ frames := 2, cells := 0, slots := 0, locals := 44 } : Room) s m (([.ref (gad G 32)] : List Value).toArray) below meth cd H locs 0 0 (MQ below (va_Qv (fun c9 : Nat → va_E => c9 = va_up c 32 (.inr (9, [.ref (gad G 33), .ref (gad G 34), .ref (gad G 35), .int (nI n), .int (nI n1), .int z, .int hd, .int sd, .ref (gad G 36), .ref (gad G 37), .int (nI rn), .ref (gad G 38), .int (nI tn), .int (nI (fF tf tn x)), .int (nI (tT tf tn x)), .int (nI (kK tf tn x)), .int (wW tf tn x), .ref (gad G 39), .ref (gad G 40), .ref (gad G 41), .ref (gad G 42), .ref (gad G 43), .ref (gad G 44), .int (nI n2), .int (nI qn), .int iz, .int (bi im)]))) (fun c9 t => Hw G c9 t t.heap) (gA G)) ([.ref (gad G 32)] : List Value).toArray s 0 0 (gA G)) (F0 m 72 ls []) := by
            intro N
            induction N with
            | zero =>
              intro j  hN7 hA7 c0 H locs e0 hw hS ls hl
              have o1 : c0 32 = .inr (9, [.ref (gad G 33), .ref (gad G 34), .ref (gad G 35), .int (nI n), .int (nI n1), .int z, .int hd, .int sd, .ref (gad G 36), .ref (gad G 37), .int (nI rn), .ref (gad G 38), .int (nI tn), .int (nI i), .int (nI j), .int (1), .int (0), .ref (gad G 39), .ref (gad G 40), .ref (gad G 41), .ref (gad G 42), .ref (gad G 43), .ref (gad G 44), .int (nI n2), .int (nI qn), .int iz, .int (bi im)]) := by rw [e0]; exact vu_s
              have t8 : c0 38 = .inl (gI G, 120, .inl tf) := by rw [e0]; exact vu_e (by decide) t80
              have hTj : tT tf tn x = j := hA7
              refine lv_aload_n hx hb dX11_goesOn_72 rfl (lv_at hl 0 rfl) ?_
              refine lv_bipush (v := 97) hx hb dX11_goesOn_73 (by decide) ?_
              refine lv_bipush (v := 122) hx hb dX11_goesOn_75 (by decide) ?_
              refine cSe (rV (As := [_, _]) ⟨hx, hb, hml, hown, hts⟩ hw (k_X11_isAt l o1 t8 htn (by omega)) (cv_X11_isAt hts tw_1218 rfl rfl ⟨Nat.le_of_ble_eq_true rfl, Nat.le_of_ble_eq_true rfl⟩) (by decide) o1 rfl rfl hl.1 rfl (by first | exact Nat.le_of_ble_eq_true rfl | decide) dX11_goesOn_77 ⟨Nat.zero_le _, Nat.zero_le _⟩) ?_
              refine zb_eq (tgt := 207) hx hb dX11_goesOn_80 (by decide) (fun c80 => ?_) (fun q => Bool.noConfusion ((show (decide (j < tn) && wn (tf j) 97 122) = false by rw [decide_eq_false (by omega)]; rfl).symm.trans q))
              exact re_V hx hb hr hlocks hw hS dX11_goesOn_207 (by rw [e0, hFx, hTj, hKx, hWx]; rfl)
            | succ N ih =>
              intro j  hN7 hA7 c0 H locs e0 hw hS ls hl
              have o1 : c0 32 = .inr (9, [.ref (gad G 33), .ref (gad G 34), .ref (gad G 35), .int (nI n), .int (nI n1), .int z, .int hd, .int sd, .ref (gad G 36), .ref (gad G 37), .int (nI rn), .ref (gad G 38), .int (nI tn), .int (nI i), .int (nI j), .int (1), .int (0), .ref (gad G 39), .ref (gad G 40), .ref (gad G 41), .ref (gad G 42), .ref (gad G 43), .ref (gad G 44), .int (nI n2), .int (nI qn), .int iz, .int (bi im)]) := by rw [e0]; exact vu_s
              have t8 : c0 38 = .inl (gI G, 120, .inl tf) := by rw [e0]; exact vu_e (by decide) t80
              have hlj : j < tn := by omega
              refine lv_aload_n hx hb dX11_goesOn_72 rfl (lv_at hl 0 rfl) ?_
              refine lv_bipush (v := 97) hx hb dX11_goesOn_73 (by decide) ?_
              refine lv_bipush (v := 122) hx hb dX11_goesOn_75 (by decide) ?_
              refine cSe (rV (As := [_, _]) ⟨hx, hb, hml, hown, hts⟩ hw (k_X11_isAt l o1 t8 htn (by omega)) (cv_X11_isAt hts tw_1218 rfl rfl ⟨Nat.le_of_ble_eq_true rfl, Nat.le_of_ble_eq_true rfl⟩) (by decide) o1 rfl rfl hl.1 rfl (by first | exact Nat.le_of_ble_eq_true rfl | decide) dX11_goesOn_77 ⟨Nat.zero_le _, Nat.zero_le _⟩) ?_
              refine zb_eq (tgt := 207) hx hb dX11_goesOn_80 (by decide) (fun c80 => ?_) (fun c80 => ?_)
              · have hTj : tT tf tn x = j := by rw [hA7, bhd, if_neg (by rw [decide_eq_true hlj, Bool.true_and] at c80; rw [leP, c80]; decide)]
                exact re_V hx hb hr hlocks hw hS dX11_goesOn_207 (by rw [e0, hFx, hTj, hKx, hWx]; rfl)
              · have hlp : leP tf j = true := by rw [decide_eq_true hlj, Bool.true_and] at c80; exact c80
                refine lv_aload_n hx hb dX11_goesOn_83 rfl (lv_at hl 0 rfl) ?_
                refine lv_dup hx hb dX11_goesOn_84 rfl ?_
                refine w_get (C := RX11) (T := TX11) (N := 27) 14 hx hb hts inX11 hown hw (by decide) o1 rfl (by decide) (hts _ tw_899) rfl dX11_goesOn_85 ?_
                refine lv_iconst (v := 1) hx hb dX11_goesOn_88 (by decide) ?_
                refine lv_iadd hx hb dX11_goesOn_89 ?_
                refine tp (y := nI (j + 1)) (nI_1 _) ?_
                refine w_put (C := RX11) (T := TX11) (N := 27) (v := .int (nI (j + 1))) 14 tyX11 hx hb hts inX11 tyX11_ok nmX11 hown hw hX hS (by decide) o1 rfl (by decide) (hts _ tw_899) rfl rfl (rfl) (rfl) (Nat.le_of_ble_eq_true rfl) dX11_goesOn_90 (fun H locs hw hS => ?_)
                obtain ⟨w32, ew32⟩ : ∃ wz9 : Nat → va_E, wz9 = va_up c0 32 (.inr (9, [.ref (gad G 33), .ref (gad G 34), .ref (gad G 35), .int (nI n), .int (nI n1), .int z, .int hd, .int sd, .ref (gad G 36), .ref (gad G 37), .int (nI rn), .ref (gad G 38), .int (nI tn), .int (nI i), .int (nI (j + 1)), .int (1), .int (0), .ref (gad G 39), .ref (gad G 40), .ref (gad G 41), .ref (gad G 42), .ref (gad G 43), .ref (gad G 44), .int (nI n2), .int (nI qn), .int iz, .int (bi im)])) := ⟨_, rfl⟩
                have hw : Hw G w32 s H := by rw [ew32]; exact hw
                have o1_32 : w32 32 = .inr (9, [.ref (gad G 33), .ref (gad G 34), .ref (gad G 35), .int (nI n), .int (nI n1), .int z, .int hd, .int sd, .ref (gad G 36), .ref (gad G 37), .int (nI rn), .ref (gad G 38), .int (nI tn), .int (nI i), .int (nI (j + 1)), .int (1), .int (0), .ref (gad G 39), .ref (gad G 40), .ref (gad G 41), .ref (gad G 42), .ref (gad G 43), .ref (gad G 44), .int (nI n2), .int (nI qn), .int iz, .int (bi im)]) := by rw [ew32]; exact vu_s
                have t8_32 : w32 38 = .inl (gI G, 120, .inl tf) := by rw [ew32]; exact vu_e (by decide) t8
                refine lv_goto (tgt := 72) hx hb dX11_goesOn_93 (by decide) ?_
                exact ih (j + 1) (by omega) (by rw [hA7, bhd, if_pos hlp]) _ H locs (by rw [ew32, e0]; simp only [up_up]) hw hS ls (lv_sub hl [0] rfl)
          exact L72 (tn - i) i (by omega) hTx _ H locs (by rw [ew30, ew10, ew8, e0]; simp only [up_up]) hw hS ls (lv_sub hl [0] rfl)
      · have hbl : blP tf i = true := by rw [decide_eq_true hlt, Bool.true_and, wn_aa] at c8; exact c8
        refine lv_aload_n hx hb dX11_goesOn_11 rfl (lv_at hl 0 rfl) ?_
        refine lv_dup hx hb dX11_goesOn_12 rfl ?_
        refine w_get (C := RX11) (T := TX11) (N := 27) 14 hx hb hts inX11 hown hw (by decide) o1 rfl (by decide) (hts _ tw_899) rfl dX11_goesOn_13 ?_
        refine lv_iconst (v := 1) hx hb dX11_goesOn_16 (by decide) ?_
        refine lv_iadd hx hb dX11_goesOn_17 ?_
        refine tp (y := nI (i + 1)) (nI_1 _) ?_
        refine w_put (C := RX11) (T := TX11) (N := 27) (v := .int (nI (i + 1))) 14 tyX11 hx hb hts inX11 tyX11_ok nmX11 hown hw hX hS (by decide) o1 rfl (by decide) (hts _ tw_899) rfl rfl (rfl) (rfl) (Nat.le_of_ble_eq_true rfl) dX11_goesOn_18 (fun H locs hw hS => ?_)
        obtain ⟨w34, ew34⟩ : ∃ wz9 : Nat → va_E, wz9 = va_up c0 32 (.inr (9, [.ref (gad G 33), .ref (gad G 34), .ref (gad G 35), .int (nI n), .int (nI n1), .int z, .int hd, .int sd, .ref (gad G 36), .ref (gad G 37), .int (nI rn), .ref (gad G 38), .int (nI tn), .int fr, .int (nI (i + 1)), .int tk, .int wo, .ref (gad G 39), .ref (gad G 40), .ref (gad G 41), .ref (gad G 42), .ref (gad G 43), .ref (gad G 44), .int (nI n2), .int (nI qn), .int iz, .int (bi im)])) := ⟨_, rfl⟩
        have hw : Hw G w34 s H := by rw [ew34]; exact hw
        have o1_34 : w34 32 = .inr (9, [.ref (gad G 33), .ref (gad G 34), .ref (gad G 35), .int (nI n), .int (nI n1), .int z, .int hd, .int sd, .ref (gad G 36), .ref (gad G 37), .int (nI rn), .ref (gad G 38), .int (nI tn), .int fr, .int (nI (i + 1)), .int tk, .int wo, .ref (gad G 39), .ref (gad G 40), .ref (gad G 41), .ref (gad G 42), .ref (gad G 43), .ref (gad G 44), .int (nI n2), .int (nI qn), .int iz, .int (bi im)]) := by rw [ew34]; exact vu_s
        have t8_34 : w34 38 = .inl (gI G, 120, .inl tf) := by rw [ew34]; exact vu_e (by decide) t8
        refine lv_goto (tgt := 0) hx hb dX11_goesOn_21 (by decide) ?_
        exact ih (i + 1) (by omega) (by rw [hA, bhd, if_pos hbl]) _ H locs (by rw [ew34, e0]; simp only [up_up]) hw hS ls (lv_sub hl [0] rfl)
  exact L0 (tn - x) x (by omega) rfl _ H locs (up_id o1).symm hw hS ls (lv_sub hl [0] rfl)
