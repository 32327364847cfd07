/-! WHAT THE START GIVES -/
theorem tt_1 {w : Cond} (i : Nat) (hi : tables_1_1[i]? = some w) : w ∈ lw_tbl := List.mem_append_right _ (by have h := List.mem_of_getElem? hi; exact (List.mem_append_left _ h))
theorem tt_2 {w : Cond} (i : Nat) (hi : tables_1_2[i]? = some w) : w ∈ lw_tbl := List.mem_append_right _ (by have h := List.mem_of_getElem? hi; exact (List.mem_append_right _ (List.mem_append_left _ h)))
theorem tt_3 {w : Cond} (i : Nat) (hi : tables_1_3[i]? = some w) : w ∈ lw_tbl := List.mem_append_right _ (by have h := List.mem_of_getElem? hi; exact (List.mem_append_right _ (List.mem_append_right _ (List.mem_append_left _ h))))
theorem tt_4 {w : Cond} (i : Nat) (hi : tables_1_4[i]? = some w) : w ∈ lw_tbl := List.mem_append_right _ (by have h := List.mem_of_getElem? hi; exact (List.mem_append_right _ (List.mem_append_right _ (List.mem_append_right _ (List.mem_append_left _ h)))))
theorem tt_5 {w : Cond} (i : Nat) (hi : tables_1_5[i]? = some w) : w ∈ lw_tbl := List.mem_append_right _ (by have h := List.mem_of_getElem? hi; exact (List.mem_append_right _ (List.mem_append_right _ (List.mem_append_right _ (List.mem_append_right _ (List.mem_append_left _ h))))))
theorem tt_6 {w : Cond} (i : Nat) (hi : tables_1_6[i]? = some w) : w ∈ lw_tbl := List.mem_append_right _ (by have h := List.mem_of_getElem? hi; exact (List.mem_append_right _ (List.mem_append_right _ (List.mem_append_right _ (List.mem_append_right _ (List.mem_append_right _ h))))))
def na : List Cond := flatC (Jvm.Cond.and given_1 narrow_1)
def nbL : List Nat := [9, 16, 26, 38, 47, 54, 61, 69, 80, 87, 93, 101, 111, 118, 127, 135, 141]
def neL : List Nat := [158, 169, 182, 192, 245, 253, 262, 274, 282, 199, 237, 210, 228, 220, 291, 298, 309]
abbrev tmS (i : Nat) : Term := .string RX8 (sxC.getD i 0)
set_option maxRecDepth 100000 in
theorem na_ex : ∀ i, i < 17 → na[nbL.getD i 0]? = some (Cond.exactly (tmS i) "java/lang/String") := by decide +kernel
set_option maxRecDepth 100000 in
theorem na_co : ∀ i, i < 17 → na[nbL.getD i 0 + 1]? = some (Cond.eq (.field (tmS i) "java/lang/String" "coder" "B") (.int 0)) := by decide +kernel
set_option maxRecDepth 100000 in
theorem na_ar : ∀ i, i < 17 → na[nbL.getD i 0 + 2]? = some (Cond.arrayOf (.field (tmS i) "java/lang/String" "value" "[B") .byte) := by decide +kernel
set_option maxRecDepth 100000 in
theorem na_le : ∀ i, i < 17 → na[nbL.getD i 0 + 3]? = some (Cond.eq (.length (.field (tmS i) "java/lang/String" "value" "[B")) (.int (Int32.ofNat (sxN.getD i 0)))) := by decide +kernel
set_option maxRecDepth 100000 in
theorem na_el : ∀ i, i < 17 → ∀ j, j < sxN.getD i 0 → na[nbL.getD i 0 + 4 + j]? = some (Cond.eq (.elem (.field (tmS i) "java/lang/String" "value" "[B") (.int (Int32.ofNat j))) (.int ((sxB.getD i []).getD j 0))) := by decide +kernel
set_option maxRecDepth 100000 in
theorem na_eq : ∀ i, i < 17 → na[neL.getD i 0]? = some (Cond.eq (tmS i) (.string RX11 (sxM.getD i 0))) := by decide +kernel
set_option maxRecDepth 100000 in
theorem na_cs : na[4]? = some (Cond.eq (.static "java/lang/String" "COMPACT_STRINGS" "Z") (.int 1)) := by decide +kernel
set_option maxRecDepth 100000 in
theorem na_sf : na[5]? = some (Cond.isRef (.static "jdk/internal/util/Preconditions" "SIOOBE_FORMATTER" "Ljava/util/function/BiFunction;")) := by decide +kernel
set_option maxRecDepth 100000 in
theorem sx_nq : ∀ i, i < 17 → ∀ j, j < 17 → sxN.getD i 0 = sxN.getD j 0 → (∀ k, k < sxN.getD i 0 → (sxB.getD i []).getD k 0 = (sxB.getD j []).getD k 0) → i = j := by decide +kernel
set_option maxRecDepth 100000 in
theorem sx_31 : ∀ i, i < 17 → sxN.getD i 0 < 2 ^ 31 := by decide +kernel
set_option maxRecDepth 100000 in
theorem sr_t : ∀ i, i < 17 → tables_1_3[152 + i]? = some (Cond.stringRef RX8 (sxC.getD i 0) (sxT.getD i "")) := by decide +kernel
set_option maxRecDepth 100000 in
theorem sr_m4 : ∀ i, i < 4 → tables_1_4[160 + i]? = some (Cond.stringRef RX11 (sxM.getD i 0) (sxT.getD i "")) := by decide +kernel
def srL : List Nat := [0, 0, 0, 0, 56, 57, 58, 59, 60, 25, 51, 36, 50, 41, 61, 62, 63]
set_option maxRecDepth 100000 in
theorem sr_m6 : ∀ i, i < 17 → 4 ≤ i → tables_1_6[srL.getD i 0]? = some (Cond.stringRef RX11 (sxM.getD i 0) (sxT.getD i "")) := by decide +kernel
theorem sr_m {i : Nat} (hi : i < 17) : Cond.stringRef RX11 (sxM.getD i 0) (sxT.getD i "") ∈ lw_tbl := by
  by_cases h : i < 4
  · exact tt_4 _ (sr_m4 i h)
  · exact tt_6 _ (sr_m6 i hi (by omega))
theorem st_at {args : Array Value} {s : State} {A : Nat → Prop} {t : Term} {N : Nat} {bs : List Int32} (hN : N < 2 ^ 31) (hex : (Cond.exactly t "java/lang/String").before args s = true) (hco : (Cond.eq (.field t "java/lang/String" "coder" "B") (.int 0)).before args s = true)
    (har : (Cond.arrayOf (.field t "java/lang/String" "value" "[B") .byte).before args s = true) (hle : (Cond.eq (.length (.field t "java/lang/String" "value" "[B")) (.int (Int32.ofNat N))).before args s = true)
    (hel : ∀ j : Nat, j < N → (Cond.eq (.elem (.field t "java/lang/String" "value" "[B") (.int (Int32.ofNat j))) (.int (bs.getD j 0))).before args s = true) (hA : ∀ a : Nat, a < s.heap.size → ¬ A a) :
    ∃ a v : Nat, t.eval args s none [] s = some (.ref a) ∧ va_O "java/lang/String" a A s s.heap ∧ va_OF "java/lang/String" "coder" "B" (.int 0) a A s s.heap ∧ va_OF "java/lang/String" "value" "[B" (.ref v) a A s s.heap ∧ va_T .byte v N (fun j => .int (bs.getD j 0)) A s s.heap := by
  obtain ⟨a, c, cA, kA, q1, q2, q3, q4, q5, q6, -⟩ := Cond.exactly_spec (args := args) (first := s) (o := none) (s := s) (idx := []) (t := t) (cls := "java/lang/String") hex
  obtain ⟨v, hv, hT⟩ := va_Tof (f := fun j => .int (bs.getD j 0)) (A := A) hN har (va_eqt hle) (fun j hj => va_eqt (hel j hj)) hA
  exact ⟨a, v, q1, ⟨cA, q3, q5, by rw [q6]; exact q2, hA a (Array.getElem?_eq_some_iff.mp q3).1⟩, vk_OFof q1 (va_eqt hco) hA, vk_OFof q1 hv hA, hT⟩
theorem of_u {o n d : String} {v w : Value} {t : Nat} {A : Nat → Prop} {U : State} {H : Heap} (h1 : va_OF o n d v t A U H) (h2 : va_OF o n d w t A U H) : v = w := by
  obtain ⟨cf, k, i, f, cell, a1, -, a3, -, a5, -⟩ := h1
  obtain ⟨cf', k', i', f', cell', b1, -, b3, -, b5, -⟩ := h2
  cases a1.symm.trans b1
  cases a3.symm.trans b3
  exact Option.some.inj (a5.symm.trans b5)
theorem ta_u {ty : FieldType} {t N M : Nat} {f g : Nat → Value} {A : Nat → Prop} {U : State} {H : Heap} (hN : N < 2 ^ 31) (hM : M < 2 ^ 31) (h1 : va_T ty t N f A U H) (h2 : va_T ty t M g A U H) : N = M ∧ ∀ k, k < N → f k = g k := by
  obtain ⟨cell, a1, -, -, -, a5, a6, -⟩ := h1
  obtain ⟨cell', b1, -, -, -, b5, b6, -⟩ := h2
  cases a1.symm.trans b1
  have e : N = M := (nI_eq hN hM).mp (a5.symm.trans b5)
  subst e
  exact ⟨rfl, fun k hk => Option.some.inj ((a6 k hk).symm.trans (b6 k hk))⟩
theorem st_of {args : Array Value} {s : State} {A : Nat → Prop} (hg : ∀ w ∈ na, w.before args s = true) (hA : ∀ a : Nat, a < s.heap.size → ¬ A a) :
    ∃ adK adV : Nat → Nat, vk_S 17 sxN sxB adK adV A s s.heap ∧ ∀ i : Nat, i < 17 → (tmS i).eval args s none [] s = some (.ref (adK i)) := by
  have h0 : ∀ i : Nat, ∃ q : Nat × Nat, i < 17 → (tmS i).eval args s none [] s = some (.ref q.1) ∧ va_O "java/lang/String" q.1 A s s.heap ∧ va_OF "java/lang/String" "coder" "B" (.int 0) q.1 A s s.heap ∧ va_OF "java/lang/String" "value" "[B" (.ref q.2) q.1 A s s.heap ∧ va_T .byte q.2 (sxN.getD i 0) (fun j => .int ((sxB.getD i []).getD j 0)) A s s.heap := by
    intro i
    by_cases hi : i < 17
    · obtain ⟨a, v, h⟩ := st_at (A := A) (t := tmS i) (N := sxN.getD i 0) (bs := sxB.getD i []) (sx_31 i hi) (hg _ (List.mem_of_getElem? (na_ex i hi))) (hg _ (List.mem_of_getElem? (na_co i hi))) (hg _ (List.mem_of_getElem? (na_ar i hi))) (hg _ (List.mem_of_getElem? (na_le i hi))) (fun j hj => hg _ (List.mem_of_getElem? (na_el i hi j hj))) hA
      exact ⟨(a, v), fun _ => h⟩
    · exact ⟨(0, 0), fun h => absurd h hi⟩
  obtain ⟨ad, had⟩ := Classical.axiomOfChoice h0
  refine ⟨fun i => (ad i).1, fun i => (ad i).2, ⟨fun i hi => (had i hi).2, fun i j hi hj e => ?_⟩, fun i hi => (had i hi).1⟩
  have e : (ad i).1 = (ad j).1 := e
  obtain ⟨-, -, -, a3, a4⟩ := had i hi
  obtain ⟨-, -, -, b3, b4⟩ := had j hj
  rw [e] at a3
  have e2 : (ad i).2 = (ad j).2 := Value.ref.inj (of_u a3 b3)
  rw [e2] at a4
  obtain ⟨g1, g2⟩ := ta_u (sx_31 i hi) (sx_31 j hj) a4 b4
  exact sx_nq i hi j hj g1 (fun k hk => Value.int.inj (g2 k hk))
theorem ev_eq {args : Array Value} {s : State} {t u : Term} {a : Nat} (h : (Cond.eq t u).before args s = true) (ht : t.eval args s none [] s = some (.ref a)) : u.eval args s none [] s = some (.ref a) := by
  obtain ⟨y, h1, h2⟩ := Cond.eq_one (args := args) (first := s) (o := none) (s := s) (idx := []) (a := t) (b := u) h
  rw [ht] at h1
  cases h1
  exact h2
theorem int_K {args : Array Value} {s : State} (h : (Cond.arrayClass .int).before args s = true) : ∃ cI : ClassId, ArrOfT s cI .int ∧ va_RA s cI .int := by
  obtain ⟨c, k, comp, h1, h2, h3⟩ := Cond.arrayClass_spec (args := args) (first := s) (o := none) (s := s) (idx := []) h
  exact ⟨c, fun n z => ⟨fun k h => (by cases h), k, h2, comp, h3⟩, h1⟩
theorem st_N {args : Array Value} {s : State} (hts : ∀ w ∈ lw_tbl, w.before args s = true) : NI s ∧ Nw s ∧ va_AO "java/lang/String" s :=
  ⟨⟨va_Nw.of rfl (hts (.methodLinkNest RX10 9 yX1_init "StatuteBook") (tt_1 31 rfl)), va_Nw.of rfl (hts (.methodLinkNest RX10 21 yX5_init "StatuteBook") (tt_1 45 rfl)), va_Nw.of rfl (hts (.methodLinkNest RX10 28 yX2_init "StatuteBook") (tt_1 61 rfl)), va_Nw.of rfl (hts (.methodLinkNest RX10 35 yX7_init "StatuteBook") (tt_1 72 rfl)), va_Nw.of rfl (hts (.methodLinkNest RX4 11 yX8_init "StatuteBook") (tt_1 91 rfl)), va_Nw.of rfl (hts (.methodLinkNest RX10 51 yX3_init "StatuteBook") (tt_1 123 rfl)), va_Nw.of rfl (hts (.methodLinkNest RX10 58 yX6_init "StatuteBook") (tt_1 137 rfl)), va_AO.of (hts (.arrayOver (.object "StatuteBook$Sheet")) (tt_1 135 rfl))⟩, ⟨va_Nw.of rfl (hts (.methodLinkNest RX1 48 yX10_within "StatuteBook") (tt_2 64 rfl)), va_Nw.of rfl (hts (.methodLinkNest RX4 100 yX10_within "StatuteBook") (tt_4 14 rfl))⟩, va_AO.of (hts (.arrayOver (.object "java/lang/String")) (tt_4 159 rfl))⟩
theorem st_Z {args : Array Value} {s : State} {A : Nat → Prop} (hts : ∀ w ∈ lw_tbl, w.before args s = true) (hg : ∀ w ∈ na, w.before args s = true) (hA : ∀ a : Nat, a < s.heap.size → ¬ A a) : va_Z "java/lang/String" "COMPACT_STRINGS" "Z" (.int 1) A s s.heap ∧ va_Zq "jdk/internal/util/Preconditions" "SIOOBE_FORMATTER" "Ljava/util/function/BiFunction;" A s s.heap :=
  ⟨va_Zof (hts _ (tt_3 182 rfl)) (hts _ (tt_1 17 rfl)) (va_eqt (hg _ (List.mem_of_getElem? na_cs))) hA, va_Zqof (hts _ (tt_3 198 rfl)) (hts _ (tt_1 19 rfl)) (hg _ (List.mem_of_getElem? na_sf)) hA⟩
theorem st_R {args : Array Value} {s : State} {adK : Nat → Nat} (hts : ∀ w ∈ lw_tbl, w.before args s = true) (hg : ∀ w ∈ na, w.before args s = true) (hev : ∀ i : Nat, i < 17 → (tmS i).eval args s none [] s = some (.ref (adK i))) : ∀ i : Nat, i < 17 → vk_R RX8 (sxC.getD i 0) (sxT.getD i "") (adK i) s ∧ vk_R RX11 (sxM.getD i 0) (sxT.getD i "") (adK i) s := fun i hi =>
  ⟨vk_R.of (hts _ (tt_3 _ (sr_t i hi))) (hev i hi), vk_R.of (hts _ (sr_m hi)) (ev_eq (hg _ (List.mem_of_getElem? (na_eq i hi))) (hev i hi))⟩
