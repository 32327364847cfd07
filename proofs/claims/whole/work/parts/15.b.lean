/-! A TEXT READ WHOLE leaves clauses as they may be; one that isn't leaves those ahead of it alone -/
def ps (P Q : (Nat → Int32) → Prop) (r : PS) : Prop := P r.2.2 ∧ (r.1 = true → Q r.2.2)
theorem ps_bnd {P Q Q' : (Nat → Int32) → Prop} {r : PS} {g : Nat → (Nat → Int32) → PS} (h : ps P Q r) (hg : ∀ k f, P f → Q f → ps P Q' (g k f)) : ps P Q' (bnd r g) := by
  obtain ⟨b, k, f⟩ := r
  cases b with
  | true => exact hg k f h.1 (h.2 rfl)
  | false => exact ⟨h.1, fun e => absurd e (by show ¬ (false = true); decide)⟩
theorem ps_orr {P Q Q' : (Nat → Int32) → Prop} {r : PS} {g h9 : Nat → (Nat → Int32) → PS} (h : ps Q Q r) (hg : ∀ k f, Q f → ps P Q' (g k f)) (hh : ∀ k f, Q f → ps P Q' (h9 k f)) : ps P Q' (orr r g h9) := by
  obtain ⟨b, k, f⟩ := r
  cases b with
  | true => exact hg k f h.1
  | false => exact hh k f h.1
theorem ps_tW {P Q : (Nat → Int32) → Prop} {K V : Nat → Int32} {w : Int32} {k : Nat} {f : Nat → Int32} (hP : P f) (hQ : Q f) : ps P Q (tW K V w k f) := by
  unfold tW
  split
  · exact ⟨hP, fun _ => hQ⟩
  · exact ⟨hP, fun _ => hQ⟩
theorem ps_tN {P Q : (Nat → Int32) → Prop} {K V : Nat → Int32} {a : Nat} {lo hi : Int32} {k : Nat} {f : Nat → Int32} (hP : P f) (h : wn (V k) lo hi = true → P (upd f a (V k)) ∧ Q (upd f a (V k))) : ps P Q (tN K V a lo hi k f) := by
  unfold tN
  split
  · rename_i c
    simp only [Bool.and_eq_true] at c
    exact ⟨(h c.2).1, fun _ => (h c.2).2⟩
  · exact ⟨hP, fun e => absurd e (by show ¬ (false = true); decide)⟩
theorem ps_tTr {P Q : (Nat → Int32) → Prop} {K V : Nat → Int32} {a k : Nat} {f : Nat → Int32} (hP : P f) (h : P (upd f a (V k)) ∧ Q (upd f a (V k))) : ps P Q (tTr K V a k f) := by
  unfold tTr
  split
  · exact ⟨h.1, fun _ => h.2⟩
  · exact ⟨hP, fun e => absurd e (by show ¬ (false = true); decide)⟩
theorem ps_ok {P Q : (Nat → Int32) → Prop} {k : Nat} {f : Nat → Int32} (hP : P f) (hQ : Q f) : ps P Q (true, k, f) := ⟨hP, fun _ => hQ⟩
theorem ps_no {P Q : (Nat → Int32) → Prop} {k : Nat} {f : Nat → Int32} (hP : P f) : ps P Q (false, k, f) := ⟨hP, fun e => absurd e (by show ¬ (false = true); decide)⟩
def Fr (q : Nat) (f0 f : Nat → Int32) : Prop := ∀ j, j < q * 11 → f j = f0 j
theorem Fr_u {q k : Nat} {f0 f : Nat → Int32} {v : Int32} (h : Fr q f0 f) : Fr q f0 (upd f (q * 11 + k) v) := fun j hj => by rw [pk_un (by omega)]; exact h j hj
/-- a clause's numbers but for its trait and what it tests with -/
def Ev (q : Nat) (s : Int32) (p6 p7 p8 p9 p10 : Int32 → Prop) (f : Nat → Int32) : Prop :=
  wn (f (q * 11 + 0)) 0 5 = true ∧ f (q * 11 + 4) = s ∧ p6 (f (q * 11 + 6)) ∧ p7 (f (q * 11 + 7)) ∧ p8 (f (q * 11 + 8)) ∧ p9 (f (q * 11 + 9)) ∧ p10 (f (q * 11 + 10))
section EVS
variable {q : Nat} {s v : Int32} {p6 p7 p8 p9 p10 P : Int32 → Prop} {f : Nat → Int32}
theorem Ev_o {k : Nat} (hk : k = 1 ∨ k = 2 ∨ k = 3 ∨ k = 5) (h : Ev q s p6 p7 p8 p9 p10 f) : Ev q s p6 p7 p8 p9 p10 (upd f (q * 11 + k) v) := by
  unfold Ev at *
  rw [pk_un (by omega), pk_un (by omega), pk_un (by omega), pk_un (by omega), pk_un (by omega), pk_un (by omega), pk_un (by omega)]
  exact h
theorem Ev_0 (hv : wn v 0 5 = true) (h : Ev q s p6 p7 p8 p9 p10 f) : Ev q s p6 p7 p8 p9 p10 (upd f (q * 11 + 0) v) := by
  unfold Ev at *
  rw [pk_us, pk_un (by omega), pk_un (by omega), pk_un (by omega), pk_un (by omega), pk_un (by omega), pk_un (by omega)]
  exact ⟨hv, h.2⟩
theorem Ev_4 (h : Ev q s p6 p7 p8 p9 p10 f) : Ev q v p6 p7 p8 p9 p10 (upd f (q * 11 + 4) v) := by
  unfold Ev at *
  rw [pk_un (by omega), pk_us, pk_un (by omega), pk_un (by omega), pk_un (by omega), pk_un (by omega), pk_un (by omega)]
  exact ⟨h.1, rfl, h.2.2⟩
theorem Ev_6 (hv : P v) (h : Ev q s p6 p7 p8 p9 p10 f) : Ev q s P p7 p8 p9 p10 (upd f (q * 11 + 6) v) := by
  unfold Ev at *
  rw [pk_un (by omega), pk_un (by omega), pk_us, pk_un (by omega), pk_un (by omega), pk_un (by omega), pk_un (by omega)]
  exact ⟨h.1, h.2.1, hv, h.2.2.2⟩
theorem Ev_7 (hv : P v) (h : Ev q s p6 p7 p8 p9 p10 f) : Ev q s p6 P p8 p9 p10 (upd f (q * 11 + 7) v) := by
  unfold Ev at *
  rw [pk_un (by omega), pk_un (by omega), pk_un (by omega), pk_us, pk_un (by omega), pk_un (by omega), pk_un (by omega)]
  exact ⟨h.1, h.2.1, h.2.2.1, hv, h.2.2.2.2⟩
theorem Ev_8 (hv : P v) (h : Ev q s p6 p7 p8 p9 p10 f) : Ev q s p6 p7 P p9 p10 (upd f (q * 11 + 8) v) := by
  unfold Ev at *
  rw [pk_un (by omega), pk_un (by omega), pk_un (by omega), pk_un (by omega), pk_us, pk_un (by omega), pk_un (by omega)]
  exact ⟨h.1, h.2.1, h.2.2.1, h.2.2.2.1, hv, h.2.2.2.2.2⟩
theorem Ev_9 (hv : P v) (h : Ev q s p6 p7 p8 p9 p10 f) : Ev q s p6 p7 p8 P p10 (upd f (q * 11 + 9) v) := by
  unfold Ev at *
  rw [pk_un (by omega), pk_un (by omega), pk_un (by omega), pk_un (by omega), pk_un (by omega), pk_us, pk_un (by omega)]
  exact ⟨h.1, h.2.1, h.2.2.1, h.2.2.2.1, h.2.2.2.2.1, hv, h.2.2.2.2.2.2⟩
theorem Ev_10 (hv : P v) (h : Ev q s p6 p7 p8 p9 p10 f) : Ev q s p6 p7 p8 p9 P (upd f (q * 11 + 10) v) := by
  unfold Ev at *
  rw [pk_un (by omega), pk_un (by omega), pk_un (by omega), pk_un (by omega), pk_un (by omega), pk_un (by omega), pk_us]
  exact ⟨h.1, h.2.1, h.2.2.1, h.2.2.2.1, h.2.2.2.2.1, h.2.2.2.2.2.1, hv⟩
end EVS
abbrev z0 : Int32 → Prop := fun x => x = 0
abbrev z9 : Int32 → Prop := fun x => x = 999
abbrev z1 : Int32 → Prop := fun x => x = -1
abbrev w6 : Int32 → Prop := fun x => wn x 0 999 = true
abbrev w7 (s : Int32) : Int32 → Prop := fun x => wn x (if s = 1 then 1 else 0) 99 = true
abbrev wd : Int32 → Prop := fun x => isDy x = true
abbrev wx (q : Nat) : Int32 → Prop := fun x => wn x (-1) (nI q - 1) = true
theorem Ev_i {q : Nat} {s : Int32} {p6 p7 p8 p9 p10 q6 q7 q8 q9 q10 : Int32 → Prop} {f : Nat → Int32} (h : Ev q s p6 p7 p8 p9 p10 f) (h6 : ∀ x, p6 x → q6 x) (h7 : ∀ x, p7 x → q7 x) (h8 : ∀ x, p8 x → q8 x) (h9 : ∀ x, p9 x → q9 x) (h10 : ∀ x, p10 x → q10 x) : Ev q s q6 q7 q8 q9 q10 f :=
  ⟨h.1, h.2.1, h6 _ h.2.2.1, h7 _ h.2.2.2.1, h8 _ h.2.2.2.2.1, h9 _ h.2.2.2.2.2.1, h10 _ h.2.2.2.2.2.2⟩
theorem ps_LH {K V : Nat → Int32} {q k : Nat} {how most s : Int32} {p6 p7 p8 p9 p10 : Int32 → Prop} {f0 f : Nat → Int32} (hh : wn how 0 5 = true) (hF : Fr q f0 f) (h : Ev q s p6 p7 p8 p9 p10 f) : ps (Fr q f0) (Ev q s p6 p7 p8 p9 p10) (rLH K V q how most k f) := by
  unfold rLH
  refine ps_bnd (Q := Ev q s p6 p7 p8 p9 p10) (ps_tN (Fr_u hF) (fun _ => ⟨Fr_u (Fr_u hF), Ev_o (by omega) (Ev_0 hh h)⟩)) (fun k f hF h => ?_)
  exact ps_tN hF (fun _ => ⟨Fr_u hF, Ev_o (by omega) h⟩)
theorem ps_Test {K V : Nat → Int32} {q k : Nat} {s : Int32} {p6 p7 p8 p9 p10 : Int32 → Prop} {f0 f : Nat → Int32} (hF : Fr q f0 f) (h : Ev q s p6 p7 p8 p9 p10 f) : ps (Fr q f0) (Ev q s p6 p7 p8 p9 p10) (rTest K V q k f) := by
  unfold rTest
  refine ps_orr (Q := fun f => Fr q f0 f ∧ Ev q s p6 p7 p8 p9 p10 f) (ps_tW ⟨hF, h⟩ ⟨hF, h⟩) (fun k f h => ps_ok h.1 h.2) (fun k f h => ?_)
  refine ps_orr (Q := fun f => Fr q f0 f ∧ Ev q s p6 p7 p8 p9 p10 f) (ps_tW h h) (fun k f h => ps_LH (by decide) h.1 h.2) (fun k f h => ?_)
  refine ps_bnd (Q := Ev q s p6 p7 p8 p9 p10) (ps_tTr h.1 ⟨Fr_u h.1, Ev_o (by omega) h.2⟩) (fun k f hF h => ?_)
  exact ps_orr (Q := fun f => Fr q f0 f ∧ Ev q s p6 p7 p8 p9 p10 f) (ps_tW ⟨hF, h⟩ ⟨hF, h⟩) (fun k f h => ps_LH (by decide) h.1 h.2) (fun k f h => ps_LH (by decide) h.1 h.2)
theorem ps_Grant {K V : Nat → Int32} {q k : Nat} {p8 p9 p10 : Int32 → Prop} {f0 f : Nat → Int32} (hF : Fr q f0 f) (h : Ev q 0 z0 z0 p8 p9 p10 f) : ps (Fr q f0) (fun f => ∃ s, wn s 0 4 = true ∧ Ev q s w6 (w7 s) p8 p9 p10 f) (rGrant K V q k f) := by
  unfold rGrant
  split
  · rename_i hW
    have hF := Fr_u (k := 4) (v := V k - 4) hF
    have h := Ev_4 (v := V k - 4) h
    have w0 : ∀ x, z0 x → w6 x := fun x e => by rw [show x = 0 from e]; decide
    have w1 : ∀ s : Int32, s ≠ 1 → ∀ x, z0 x → w7 s x := fun s hs x e => by
      show wn x (if s = 1 then 1 else 0) 99 = true
      rw [if_neg hs, show x = 0 from e]; decide
    have i : ∀ {p : Int32 → Prop} (x : Int32), p x → p x := fun x h => h
    rcases grS hW with e | e | e | e | e
    · rw [e] at hF h ⊢
      rw [rGr_0]
      refine ps_bnd (Q := Ev q 0 w6 z0 p8 p9 p10) (ps_tN hF (fun hw => ⟨Fr_u hF, Ev_6 hw h⟩)) (fun k f hF h => ps_ok hF ⟨0, by decide, Ev_i h i (w1 0 (by decide)) i i i⟩)
    · rw [e] at hF h ⊢
      rw [rGr_1]
      refine ps_bnd (Q := Ev q 1 z0 z0 p8 p9 p10) (ps_tTr hF ⟨Fr_u hF, Ev_o (by omega) h⟩) (fun k f hF h => ?_)
      refine ps_bnd (Q := Ev q 1 w6 z0 p8 p9 p10) (ps_tN hF (fun hw => ⟨Fr_u hF, Ev_6 hw h⟩)) (fun k f hF h => ?_)
      exact ps_tN hF (fun hw => ⟨Fr_u hF, 1, by decide, Ev_7 (by show wn _ (if (1 : Int32) = 1 then 1 else 0) 99 = true; rw [if_pos rfl]; exact hw) h⟩)
    · rw [e] at hF h ⊢
      rw [rGr_2]
      refine ps_bnd (Q := Ev q 2 z0 z0 p8 p9 p10) (ps_tTr hF ⟨Fr_u hF, Ev_o (by omega) h⟩) (fun k f hF h => ?_)
      refine ps_bnd (Q := Ev q 2 w6 z0 p8 p9 p10) (ps_tN hF (fun hw => ⟨Fr_u hF, Ev_6 hw h⟩)) (fun k f hF h => ?_)
      exact ps_tN hF (fun hw => ⟨Fr_u hF, 2, by decide, Ev_7 (by show wn _ (if (2 : Int32) = 1 then 1 else 0) 99 = true; rw [if_neg (by decide)]; exact hw) h⟩)
    · rw [e] at hF h ⊢
      rw [rGr_3]
      exact ps_ok hF ⟨3, by decide, Ev_i h w0 (w1 3 (by decide)) i i i⟩
    · rw [e] at hF h ⊢
      rw [rGr_4]
      refine ps_bnd (Q := Ev q 4 z0 z0 p8 p9 p10) (ps_tTr hF ⟨Fr_u hF, Ev_o (by omega) h⟩) (fun k f hF h => ?_)
      exact ps_bnd (Q := Ev q 4 w6 z0 p8 p9 p10) (ps_tN hF (fun hw => ⟨Fr_u hF, Ev_6 hw h⟩)) (fun k f hF h => ps_ok hF ⟨4, by decide, Ev_i h i (w1 4 (by decide)) i i i⟩)
  · exact ps_no hF
theorem wn_dy {x a : Int32} (ha : isDy a = true) (h : wn x a 999 = true) : isDy x = true := by
  unfold isDy wn at *
  simp only [Bool.and_eq_true, Bool.not_eq_true', decide_eq_false_iff_not] at *
  refine ⟨fun q => ?_, h.2⟩
  rw [Int32.lt_iff_toInt_lt] at q
  have h1 := h.1
  have h2 := ha.1
  rw [Int32.lt_iff_toInt_lt] at h1 h2
  omega
theorem ps_Span {K V : Nat → Int32} {q k : Nat} {s : Int32} {p6 p7 p10 : Int32 → Prop} {f0 f : Nat → Int32} (hF : Fr q f0 f) (h : Ev q s p6 p7 z0 z9 p10 f) : ps (Fr q f0) (Ev q s p6 p7 wd wd p10) (rSpan K V q k f) := by
  unfold rSpan
  have i : ∀ {p : Int32 → Prop} (x : Int32), p x → p x := fun x h => h
  have d0 : ∀ x, z0 x → wd x := fun x e => by rw [show x = 0 from e]; decide
  have d9 : ∀ x, z9 x → wd x := fun x e => by rw [show x = 999 from e]; decide
  refine ps_orr (Q := fun f => Fr q f0 f ∧ Ev q s p6 p7 z0 z9 p10 f) (ps_tW ⟨hF, h⟩ ⟨hF, h⟩) (fun k f h => ?_) (fun k f h => ps_ok h.1 (Ev_i h.2 i i d0 d9 i))
  refine ps_bnd (Q := Ev q s p6 p7 wd z9 p10) (ps_tN h.1 (fun hw => ⟨Fr_u h.1, Ev_8 hw h.2⟩)) (fun k f hF h => ?_)
  refine ps_bnd (Q := Ev q s p6 p7 wd z9 p10) (ps_tW hF h) (fun k f hF h => ?_)
  exact ps_tN hF (fun hw => ⟨Fr_u hF, Ev_9 (wn_dy h.2.2.2.2.1 hw) h⟩)
theorem wn_m1 {x a : Int32} (h : wn x 0 a = true) : wn x (-1) a = true := by
  unfold wn at *
  simp only [Bool.and_eq_true, Bool.not_eq_true', decide_eq_false_iff_not] at *
  refine ⟨fun q => ?_, h.2⟩
  have h1 := h.1
  rw [Int32.lt_iff_toInt_lt] at q h1
  have e0 : (0 : Int32).toInt = 0 := by decide
  have e1 : (-1 : Int32).toInt = -1 := by decide
  omega
theorem ps_Exc {K V : Nat → Int32} {q k : Nat} {s : Int32} {p6 p7 p8 p9 : Int32 → Prop} {f0 f : Nat → Int32} (hq : q ≤ 12) (hF : Fr q f0 f) (h : Ev q s p6 p7 p8 p9 z1 f) : ps (Fr q f0) (Ev q s p6 p7 p8 p9 (wx q)) (rExc K V q k f) := by
  unfold rExc
  have i : ∀ {p : Int32 → Prop} (x : Int32), p x → p x := fun x h => h
  have d1 : ∀ x, z1 x → wx q x := fun x e => by rw [show x = -1 from e]; exact m1_q hq
  refine ps_orr (Q := fun f => Fr q f0 f ∧ Ev q s p6 p7 p8 p9 z1 f) (ps_tW ⟨hF, h⟩ ⟨hF, h⟩) (fun k f h => ?_) (fun k f h => ps_ok h.1 (Ev_i h.2 i i i i d1))
  exact ps_tN h.1 (fun hw => ⟨Fr_u h.1, Ev_10 (wn_m1 hw) h.2⟩)
theorem ps_LawB {K V : Nat → Int32} {q k : Nat} {f0 f : Nat → Int32} (hq : q ≤ 12) (hF : Fr q f0 f) (h : Ev q 0 z0 z0 z0 z9 z1 f) : ps (Fr q f0) (fun f => cIv f q) (rLawB K V q k f) := by
  unfold rLawB
  refine ps_bnd (Q := Ev q 0 z0 z0 z0 z9 z1) (ps_Test hF h) (fun k f hF h => ?_)
  refine ps_bnd (Q := Ev q 0 z0 z0 z0 z9 z1) (ps_tW hF h) (fun k f hF h => ?_)
  refine ps_bnd (ps_Grant hF h) (fun k f hF h => ?_)
  obtain ⟨s, hs, h⟩ := h
  refine ps_bnd (Q := Ev q s w6 (w7 s) wd wd z1) (ps_Span hF h) (fun k f hF h => ?_)
  have := ps_Exc (K := K) (V := V) (k := k) hq hF h
  refine ⟨this.1, fun e => ?_⟩
  have g := this.2 e
  obtain ⟨g0, g4, g6, g7, g8, g9, g10⟩ := g
  refine ⟨g0, by rw [g4]; exact hs, g6, by rw [g4]; exact g7, g8, g9, g10⟩
theorem apF_e (f : Nat → Int32) (n : Nat) : Ev n 0 z0 z0 z0 z9 z1 (apF f n) := by
  have z : ∀ k, k < 9 → apF f n (n * 11 + k) = 0 := fun k hk => by
    unfold apF
    rw [pk_un (by omega), pk_un (by omega), zrF, if_pos (by omega)]
  refine ⟨by rw [z 0 (by decide)]; decide, z 4 (by decide), z 6 (by decide), z 7 (by decide), z 8 (by decide), ?_, ?_⟩
  · show apF f n (n * 11 + 9) = 999
    unfold apF; rw [pk_un (by omega), pk_us]
  · show apF f n (n * 11 + 10) = -1
    unfold apF; rw [pk_us]
theorem rLaw_i {K V : Nat → Int32} {n k : Nat} {f : Nat → Int32} (hn : n ≤ 12) : Fr n f (rLaw K V n k f).2.2.1 ∧ ((rLaw K V n k f).1 = true → (rLaw K V n k f).2.2.2 = n + 1 ∧ n + 1 ≤ 12 ∧ (cI f n → cI (rLaw K V n k f).2.2.1 (n + 1))) := by
  unfold rLaw
  split
  · rename_i hc
    simp only [Bool.and_eq_true, decide_eq_true_eq] at hc
    have hF : Fr n f (apF f n) := fun j hj => apF_o f n j (by omega)
    have h := ps_LawB (K := K) (V := V) (k := k + 1) hn hF (apF_e f n)
    refine ⟨h.1, fun e => ⟨rfl, by omega, fun hI c hc2 => ?_⟩⟩
    by_cases ec : c = n
    · rw [ec]; exact h.2 e
    · exact cIv_c (fun k hk => h.1 _ (by omega)) (hI c (by omega))
  · exact ⟨fun j _ => rfl, fun e => absurd e (by show ¬ (false = true); decide)⟩
theorem rText_i {K V : Nat → Int32} : ∀ (N n k : Nat) (f : Nat → Int32), n ≤ 12 → Fr n f (rText K V N n k f).2.2.1 ∧ ((rText K V N n k f).1 = true → cI f n → cI (rText K V N n k f).2.2.1 (rText K V N n k f).2.2.2)
  | 0, n, k, f, _ => ⟨fun j _ => rfl, fun e => absurd e (by show ¬ (false = true); decide)⟩
  | N + 1, n, k, f, hn => by
    have h := rLaw_i (K := K) (V := V) (k := k) (f := f) hn
    cases hr : rLaw K V n k f with
    | mk b r =>
      obtain ⟨k1, f1, n1⟩ := r
      rw [hr] at h
      cases hb : b with
      | false =>
        rw [rText_f hr hb]
        exact ⟨h.1, fun e => absurd e (by show ¬ (false = true); decide)⟩
      | true =>
        obtain ⟨e1, e2, e3⟩ := h.2 hb
        have e1 : n1 = n + 1 := e1
        by_cases h0 : K k1 = 0
        · rw [rText_e hr hb h0]
          exact ⟨h.1, fun _ hI => by show cI f1 n1; rw [e1]; exact e3 hI⟩
        · by_cases h3 : K k1 = 3
          · rw [rText_s hr hb h3]
            have ih := rText_i (K := K) (V := V) N n1 (k1 + 1) f1 (by omega)
            refine ⟨fun j hj => ?_, fun e hI => ih.2 e ?_⟩
            · rw [ih.1 j (by rw [e1]; omega)]; exact h.1 j hj
            · rw [e1]; exact e3 hI
          · rw [rText_x hr hb h0 h3]
            exact ⟨h.1, fun e => absurd e (by show ¬ (false = true); decide)⟩
theorem rText_I {K V : Nat → Int32} {N n k k9 n9 : Nat} {f f9 : Nat → Int32} {b9 : Bool} (hn : n ≤ 12) (hI : cI f n) (h : rText K V N n k f = (b9, k9, f9, n9)) : cI f9 (if b9 = true then n9 else n) := by
  have i := rText_i (K := K) (V := V) N n k f hn
  rw [h] at i
  cases b9 with
  | true => exact i.2 rfl hI
  | false => exact cI_lt i.1 hI
