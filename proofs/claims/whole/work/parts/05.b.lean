/-! THE WORLD: 45 cells at fixed addresses, what each holds is a function of its place -/
abbrev GT : Type := va_G × ClassId × ClassId × ClassId × (Nat → Nat) × (Nat → Prop) × (Nat → Nat) × (Nat → Nat)
def gD (G : GT) : va_G := G.1
def gI (G : GT) : ClassId := G.2.1
def gS (G : GT) : ClassId := G.2.2.1
def gT (G : GT) : ClassId := G.2.2.2.1
def gad (G : GT) : Nat → Nat := G.2.2.2.2.1
def gA (G : GT) : Nat → Prop := G.2.2.2.2.2.1
def gK (G : GT) : Nat → Nat := G.2.2.2.2.2.2.1
def gV (G : GT) : Nat → Nat := G.2.2.2.2.2.2.2
def cw (ad : Nat → Nat) (c : Nat → va_E) : va_W := (List.range 45).map (fun k => (ad k, c k))
theorem cw_at {ad : Nat → Nat} {c : Nat → va_E} {k : Nat} (hk : k < 45) : (cw ad c)[k]? = some (ad k, c k) := by
  unfold cw
  rw [List.getElem?_map, List.getElem?_range hk]
  rfl
theorem cw_len {ad : Nat → Nat} {c : Nat → va_E} : (cw ad c).length = 45 := by unfold cw; simp
theorem cw_at2 {ad : Nat → Nat} {c : Nat → va_E} {k : Nat} {e : va_E} (hk : k < 45) (h : c k = e) : (cw ad c)[k]? = some (ad k, e) := by
  rw [cw_at hk, h]
theorem cw_set {ad : Nat → Nat} {c : Nat → va_E} {k : Nat} (e : va_E) : (cw ad c).set k (ad k, e) = cw ad (va_up c k e) := by
  apply List.ext_getElem?
  intro j
  by_cases hj : j < 45
  · rw [cw_at hj]
    by_cases h : k = j
    · subst h
      rw [List.getElem?_set_self (by rw [cw_len]; exact hj)]
      simp [va_up]
    · rw [List.getElem?_set_ne h, cw_at hj]
      simp [va_up, Ne.symm h]
  · rw [List.getElem?_eq_none (by rw [List.length_set, cw_len]; omega), List.getElem?_eq_none (by rw [cw_len]; omega)]
theorem vu_s {α : Type} {f : Nat → α} {k : Nat} {v : α} : va_up f k v k = v := by simp [va_up]
theorem vu_n {α : Type} {f : Nat → α} {k j : Nat} {v : α} (h : j ≠ k) : va_up f k v j = f j := by simp [va_up, h]
theorem vu_e {α : Type} {f : Nat → α} {k j : Nat} {v x : α} (h : j ≠ k) (e : f j = x) : va_up f k v j = x := by rw [vu_n h, e]
/-- the texts of the literals, in the order of Tokens.spelled -/
def sxT : List String := ["age", "income", "children", "place", "pay", "per", "less", "nothing", "cap", "if", "then", "always", "not", "marks", "from", "to", "except"]
def sxN : List Nat := [3, 6, 8, 5, 3, 3, 4, 7, 3, 2, 4, 6, 3, 5, 4, 2, 6]
def sxB : List (List Int32) := [[97, 103, 101], [105, 110, 99, 111, 109, 101], [99, 104, 105, 108, 100, 114, 101, 110], [112, 108, 97, 99, 101], [112, 97, 121], [112, 101, 114], [108, 101, 115, 115], [110, 111, 116, 104, 105, 110, 103], [99, 97, 112], [105, 102], [116, 104, 101, 110], [97, 108, 119, 97, 121, 115], [110, 111, 116], [109, 97, 114, 107, 115], [102, 114, 111, 109], [116, 111], [101, 120, 99, 101, 112, 116]]
/-- their places in the pools of Tokens and of the reference -/
def sxC : List Nat := [70, 72, 74, 76, 78, 80, 82, 84, 86, 88, 90, 92, 94, 96, 98, 100, 102]
def sxM : List Nat := [34, 36, 38, 40, 237, 239, 241, 243, 245, 247, 252, 224, 235, 226, 257, 258, 259]
def Nw (U : State) : Prop := va_Nw (.methodLinkNest RX1 48 yX10_within "StatuteBook") U ∧ va_Nw (.methodLinkNest RX4 100 yX10_within "StatuteBook") U
def Rw (G : GT) (U : State) : Prop := ∀ i : Nat, i < 17 → vk_R RX8 (sxC.getD i 0) (sxT.getD i "") (gK G i) U ∧ vk_R RX11 (sxM.getD i 0) (sxT.getD i "") (gK G i) U
def Sw (G : GT) (U : State) (H : Heap) : Prop := vk_S 17 sxN sxB (gK G) (gV G) (gA G) U H ∧ va_Z "java/lang/String" "COMPACT_STRINGS" "Z" (.int 1) (gA G) U H ∧ va_Zq "jdk/internal/util/Preconditions" "SIOOBE_FORMATTER" "Ljava/util/function/BiFunction;" (gA G) U H
def tysG (G : GT) : List (ClassId × FieldType) := [(gI G, .int), (gS G, .object "StatuteBook$Sheet"), (gT G, .object "java/lang/String")]
def Hw (G : GT) (c : Nat → va_E) (U : State) (H : Heap) : Prop :=
  va_P (gD G) vwCl (cw (gad G) c) H ∧ va_K (gD G) vwCl (tysG G) U ∧ va_D (gA G) (cw (gad G) c) ∧ Nw U ∧ Rw G U ∧ Sw G U H
theorem Hw.warm {G : GT} {c : Nat → va_E} {s U : State} {H : Heap} (hW : s.WarmedH U.vm) (h : Hw G c s H) : Hw G c U H :=
  ⟨h.1, va_K.moved hW.alike h.2.1, h.2.2.1, ⟨va_Nw.warmM hW h.2.2.2.1.1, va_Nw.warmM hW h.2.2.2.1.2⟩, fun i hi => ⟨vk_R.warm hW (h.2.2.2.2.1 i hi).1, vk_R.warm hW (h.2.2.2.2.1 i hi).2⟩,
    vk_S.moved hW.alike h.2.2.2.2.2.1, va_Z.moved hW.alike h.2.2.2.2.2.2.1, va_Zq.moved hW.alike h.2.2.2.2.2.2.2⟩
theorem Hw.to {G : GT} {c : Nat → va_E} {s t : State} {H : Heap} (h : Hw G c s H) (ht : t.heap = H) (hW : s.WarmedH t.vm) : Hw G c t t.heap := by rw [ht]; exact h.warm hW
theorem Hw.back {G : GT} {c u : Nat → va_E} {s t : State} {H H1 : Heap} (h : Hw G c s H) (ht : t.heap = H1) (hvm : s.vm.Alike t.vm) (h1 : Hw G u t t.heap) : Hw G u s H1 := by
  rw [ht] at h1
  exact ⟨h1.1, h.2.1, h1.2.2.1, h.2.2.2.1, h.2.2.2.2.1, vk_S.moved hvm.symm h1.2.2.2.2.2.1, va_Z.moved hvm.symm h1.2.2.2.2.2.2.1, va_Zq.moved hvm.symm h1.2.2.2.2.2.2.2⟩
theorem Hw.calling {G : GT} {c : Nat → va_E} {U : State} {g : JFrame} {mk : MethodId} {a : Array Value} (h : Hw G c U U.heap) : Hw G c (U.calling g mk a) (U.calling g mk a).heap :=
  ⟨h.1, va_K.moved (u := U) (U := U.calling g mk a) (Vm.Alike.refl U.vm) h.2.1, h.2.2.1, ⟨va_Nw.same rfl (rfl : U.vm = (U.calling g mk a).vm) h.2.2.2.1.1, va_Nw.same rfl (rfl : U.vm = (U.calling g mk a).vm) h.2.2.2.1.2⟩,
    fun i hi => ⟨vk_R.same (rfl : (U.calling g mk a).vm = U.vm) (h.2.2.2.2.1 i hi).1, vk_R.same (rfl : (U.calling g mk a).vm = U.vm) (h.2.2.2.2.1 i hi).2⟩,
    vk_S.moved (u := U) (U := U.calling g mk a) (Vm.Alike.refl U.vm) h.2.2.2.2.2.1, va_Z.moved (u := U) (U := U.calling g mk a) (Vm.Alike.refl U.vm) h.2.2.2.2.2.2.1, va_Zq.moved (u := U) (U := U.calling g mk a) (Vm.Alike.refl U.vm) h.2.2.2.2.2.2.2⟩
theorem fb_H {G : GT} {c : Nat → va_E} {av : List Value} : FrameBlind (va_Pc av (fun U => Hw G c U U.heap)) := fun _ _ _ _ q => ⟨q.1, Hw.calling q.2⟩
theorem fb_T {av : List Value} : FrameBlind (va_Pc av (fun _ => True)) := fun _ _ _ _ q => ⟨q.1, trivial⟩
def bi (b : Bool) : Int32 := if b then 1 else 0
theorem bi_t : bi true = 1 := rfl
theorem bi_f : bi false = 0 := rfl
theorem bi_n (b : Bool) : narrow .boolean (.int (bi b)) = .int (bi b) := by cases b <;> rfl
/-! WORDS: every method's list is its own code and the tables' good words -/
def wv (y : MethodName) (cc : ByteArray) (n : Nat) (ret : Option FieldType) : List Cond := .code y cc n ret :: WT
theorem wv_t {y : MethodName} {cc : ByteArray} {n : Nat} {ret : Option FieldType} {args : Array Value} {s : State} (hts : ∀ w ∈ wv y cc n ret, w.before args s = true) : ∀ w ∈ WT, w.before args s = true := fun w h => hts w (List.mem_cons_of_mem _ h)
theorem wt_good {w : Cond} (h : w ∈ WT) : w ∈ WT ∧ ((w.onTables && w.keeps) = true ∨ ∃ ty, w = .arrayClass ty) := ⟨h, good_of_word (List.mem_filter.mp h).2⟩
theorem gdI {y : MethodName} {bytes : ByteArray} {maxL : Nat} {ret : Option FieldType} (h5 : Cond.code y bytes maxL ret ∈ WT) : GoodIn WT (wv y bytes maxL ret) := by
  intro w hw
  rcases List.mem_cons.mp hw with rfl | h
  · exact wt_good h5
  · exact wt_good h
theorem gdV {own C : String} {idx : Nat} {y : MethodName} {bytes : ByteArray} {maxL : Nat} {ret : Option FieldType} (h1 : Cond.methodLink own idx y ∈ WT) (h2 : Cond.instanceMethod y ∈ WT) (h3 : Cond.selects C y y ∈ WT) (h4 : Cond.initialized C ∈ WT) (h5 : Cond.code y bytes maxL ret ∈ WT) : GoodIn WT (wsV own idx C y (wv y bytes maxL ret)) := by
  intro w hw
  unfold wsV at hw
  rcases List.mem_append.mp hw with h | h
  · simp only [List.mem_cons, List.not_mem_nil, or_false] at h
    rcases h with rfl | rfl | rfl | rfl
    · exact wt_good h1
    · exact wt_good h2
    · exact wt_good h3
    · exact wt_good h4
  · exact gdI h5 w h
theorem gdS {own : String} {idx : Nat} {y : MethodName} {bytes : ByteArray} {maxL : Nat} {ret : Option FieldType} (h1 : Cond.methodLink own idx y ∈ WT) (h2 : Cond.static y ∈ WT) (h4 : Cond.initialized y.cls ∈ WT) (h5 : Cond.code y bytes maxL ret ∈ WT) : GoodIn WT (va_wsS own idx y (wv y bytes maxL ret)) := by
  intro w hw
  unfold va_wsS at hw
  rcases List.mem_append.mp hw with h | h
  · simp only [List.mem_cons, List.not_mem_nil, or_false] at h
    rcases h with rfl | rfl | rfl
    · exact wt_good h1
    · exact wt_good h2
    · exact wt_good h4
  · exact gdI h5 w h
/-- the entry of a method -/
theorem en {l : Launch} {y : MethodName} {rm : Room} {cc : ByteArray} {maxL : Nat} {ret : Option FieldType} {av : List Value} {B : State → Prop} {Qc : Array Value → State → Outcome → State → Prop} {mc ms : Nat} {free : Addr → Prop}
    (hy : plainName y.cls = true) (hn : (lg_sl av).length ≤ maxL)
    (body : ∀ (p : Program) (e : Env) (s : State) (m : MethodId) (below : List Frame) (meth : Method) (cd : Code) (ls : Array Slot), p.tables.exec = Jvm.exec → cd.code = cc → meth.sig.returnType = ret → cd.maxLocals = maxL → s.vm.findClass y.cls = some m.cls →
      (∀ w ∈ WT, w.before av.toArray s = true) → meth.locks = false → meth.name = y.name → B s → lv_has ls maxL (lv_args 0 av) → W p l e rm s m av.toArray below meth cd s.heap [] 0 0 (MQ below Qc av.toArray s mc ms free) (F0 m 0 ls [])) : Met l y (wv y cc maxL ret) rm (va_Pc av B) Qc mc ms free := by
  refine Met.ofW (cc := cc) (maxL := maxL) (ret := ret) hy rfl ?_
  intro p e s m args below meth c s₁ Bd hml hv
  obtain ⟨rfl, hB⟩ := hv
  have hl := lv_entry av (n := maxL) hn
  rw [lg_entry_eq]
  exact body p e s m below meth c _ Bd.exec Bd.bytes Bd.returns hml (findClass_of_methodNamed Bd.named) (wv_t (atoms_spec (ws := wv y cc maxL ret) Bd.pre)) Bd.notSynchronized (name_of_methodNamed Bd.named Bd.method).1 hB hl
section BW
variable {p : Program} {l : Launch} {e : Env} {R : Room} {s : State} {m : MethodId} {args : Array Value} {below : List Frame} {meth : Method} {cd : Code} {H : Heap} {locs : List Loc} {cells slots : Nat} {Q : State → Prop}
variable {cc : ByteArray} {pc : Nat} {ls : Array Slot} {rest : List Value} {G : GT} {c : Nat → va_E} {H0 : Heap}
theorem re_S {post : Int32 → Prop} {v : Int32} {ty : FieldType} (hx : p.tables.exec = Jvm.exec) (hb : cd.code = cc) (hr : meth.sig.returnType = some ty) (hlocks : meth.locks = false) (hn : narrow ty (.int v) = .int v) (hdg : decode cc pc = .ok (.ireturn, 1)) (hp : post v) : W p l e R s m args below meth cd s.heap [] 0 0 (MQ below (vp_Si post) args s 0 0 (fun _ => False)) (F0 m pc ls [.int v]) :=
  W.zret hx hb hr hn (fun _ ht _ => ⟨v, rfl, hp, ht⟩) (fun q h => by cases h) hdg hlocks
theorem re_Q {post : Int32 → (Nat → va_E) → Prop} {v : Int32} {ty : FieldType} (hx : p.tables.exec = Jvm.exec) (hb : cd.code = cc) (hr : meth.sig.returnType = some ty) (hlocks : meth.locks = false) (hn : narrow ty (.int v) = .int v) (hw : Hw G c s H) (hS : va_S (gA G) s.heap H locs) (hdg : decode cc pc = .ok (.ireturn, 1)) (hp : post v c) : W p l e R s m args below meth cd H locs cells slots (MQ below (va_Qi post (fun c' t => Hw G c' t t.heap) (gA G)) args s cells slots (gA G)) (F0 m pc ls [.int v]) :=
  W.zret hx hb hr hn (fun t ht hW => ⟨⟨v, c, rfl, hp, hw.to ht hW⟩, hS.F ht⟩) hS.2.2 hdg hlocks
theorem re_V {post : (Nat → va_E) → Prop} (hx : p.tables.exec = Jvm.exec) (hb : cd.code = cc) (hr : meth.sig.returnType = none) (hlocks : meth.locks = false) (hw : Hw G c s H) (hS : va_S (gA G) s.heap H locs) (hdg : decode cc pc = .ok (.return_, 1)) (hp : post c) : W p l e R s m args below meth cd H locs cells slots (MQ below (va_Qv post (fun c' t => Hw G c' t t.heap) (gA G)) args s cells slots (gA G)) (F0 m pc ls []) :=
  W.vret hx hb hr (fun t ht hW => ⟨⟨c, rfl, hp, hw.to ht hW⟩, hS.F ht⟩) hS.2.2 hdg hlocks
theorem re_SL {post : Int64 → Prop} {v : Int64} (hx : p.tables.exec = Jvm.exec) (hb : cd.code = cc) (hr : meth.sig.returnType = some .long) (hlocks : meth.locks = false) (hdg : decode cc pc = .ok (.lreturn, 1)) (hp : post v) : W p l e R s m args below meth cd s.heap [] 0 0 (MQ below (vp_Sl post) args s 0 0 (fun _ => False)) (F0 m pc ls [.long v]) :=
  W.lret hx hb hr (fun _ ht _ => ⟨v, rfl, hp, ht⟩) (fun q h => by cases h) hdg hlocks
theorem re_QL {post : Int64 → (Nat → va_E) → Prop} {v : Int64} (hx : p.tables.exec = Jvm.exec) (hb : cd.code = cc) (hr : meth.sig.returnType = some .long) (hlocks : meth.locks = false) (hw : Hw G c s H) (hS : va_S (gA G) s.heap H locs) (hdg : decode cc pc = .ok (.lreturn, 1)) (hp : post v c) : W p l e R s m args below meth cd H locs cells slots (MQ below (va_Ql post (fun c' t => Hw G c' t t.heap) (gA G)) args s cells slots (gA G)) (F0 m pc ls [.long v]) :=
  W.lret hx hb hr (fun t ht hW => ⟨⟨v, c, rfl, hp, hw.to ht hW⟩, hS.F ht⟩) hS.2.2 hdg hlocks
/-- the top of the stack, said otherwise -/
theorem tp {x y : Int32} (h : x = y) (k : W p l e R s m args below meth cd H locs cells slots Q (F0 m pc ls (.int y :: rest))) : W p l e R s m args below meth cd H locs cells slots Q (F0 m pc ls (.int x :: rest)) := by rw [h]; exact k
theorem tp2 {x y : Int32} {v : Value} (h : x = y) (k : W p l e R s m args below meth cd H locs cells slots Q (F0 m pc ls (v :: .int y :: rest))) : W p l e R s m args below meth cd H locs cells slots Q (F0 m pc ls (v :: .int x :: rest)) := by rw [h]; exact k
/-- branches on a truth value -/
theorem zb_eq {b : Bool} {off : Int} {tgt : Nat} (hx : p.tables.exec = Jvm.exec) (hb : cd.code = cc) (hdg : decode cc pc = .ok (.ifCond .eq off, 3)) (ht : (pc : Int) + off = (tgt : Int)) (kt : b = false → W p l e R s m args below meth cd H locs cells slots Q (F0 m tgt ls rest)) (kf : b = true → W p l e R s m args below meth cd H locs cells slots Q (F0 m (pc + 3) ls rest)) : W p l e R s m args below meth cd H locs cells slots Q (F0 m pc ls (.int (bi b) :: rest)) :=
  lv_if_eq hx hb hdg ht (fun h => kt (by cases b with | true => exact absurd h (by decide) | false => rfl)) (fun h => kf (by cases b with | false => exact absurd rfl h | true => rfl))
theorem zb_ne {b : Bool} {off : Int} {tgt : Nat} (hx : p.tables.exec = Jvm.exec) (hb : cd.code = cc) (hdg : decode cc pc = .ok (.ifCond .ne off, 3)) (ht : (pc : Int) + off = (tgt : Int)) (kt : b = true → W p l e R s m args below meth cd H locs cells slots Q (F0 m tgt ls rest)) (kf : b = false → W p l e R s m args below meth cd H locs cells slots Q (F0 m (pc + 3) ls rest)) : W p l e R s m args below meth cd H locs cells slots Q (F0 m pc ls (.int (bi b) :: rest)) :=
  lv_if_ne hx hb hdg ht (fun h => kt (by cases b with | false => exact absurd rfl h | true => rfl)) (fun h => kf (by cases b with | true => exact absurd h (by decide) | false => rfl))
/-- fields and arrays of the world -/
theorem w_get {own C : String} {T : u_T} {N ci index k : Nat} {Ts : List Cond} {fs : List Value} (i : Nat) {v : Value} (hx : p.tables.exec = Jvm.exec) (hb : cd.code = cc) (hts : ∀ w ∈ Ts, w.before args s = true) (hin : ∀ w ∈ u_ws C T N, w ∈ Ts) (hown : s.vm.findClass own = some m.cls) (hw : Hw G c s H) (hk : k < 45) (hc : c k = .inr (ci, fs)) (hcl : vwCl[ci]? = some (C, T, N)) (hi : i < N)
    (hlink : (Cond.fieldLink own index (T i).1 (T i).2.1 (T i).2.2.1).before args s = true) (hv : fs[i]? = some v) (hdg : decode cc pc = .ok (.getfield index, 3))
    (kk : W p l e R s m args below meth cd H locs cells slots Q (F0 m (pc + 3) ls (v :: rest))) : W p l e R s m args below meth cd H locs cells slots Q (F0 m pc ls (.ref (gad G k) :: rest)) :=
  va_get hx hb hts hin hown hw.2.1 hw.1 k (cw_at2 hk hc) hcl i hi hlink (fun _ h => h) hv hdg kk
theorem Sw.kept {U : State} {H1 : Heap} (h : Sw G U H) (hq : ∀ a : Nat, a < H.size → ¬ (gA G) a → H1[a]? = H[a]?) : Sw G U H1 := ⟨vk_S.kept h.1 hq, va_Z.kept h.2.1 hq, va_Zq.kept h.2.2 hq⟩
theorem w_put {own C : String} {T : u_T} {N ci index k : Nat} {Ts : List Cond} {fs : List Value} (i : Nat) {v : Value} {ty : FieldType} (ty0 : Nat → FieldType) (hx : p.tables.exec = Jvm.exec) (hb : cd.code = cc) (hts : ∀ w ∈ Ts, w.before args s = true) (hin : ∀ w ∈ u_ws C T N, w ∈ Ts) (hty : ∀ k, k < N → parseFieldDescriptor (T k).2.2.1 = some (ty0 k)) (hnm : ∀ a, a < N → ∀ b, b < N → a ≠ b → (T a).2.1 ≠ (T b).2.1) (hown : s.vm.findClass own = some m.cls) (hw : Hw G c s H) (hX : Sw G s H0) (hS : va_S (gA G) H0 H locs) (hk : k < 45) (hc : c k = .inr (ci, fs)) (hcl : vwCl[ci]? = some (C, T, N)) (hi : i < N)
    (hlink : (Cond.fieldLink own index (T i).1 (T i).2.1 (T i).2.2.1).before args s = true) (hfin : (T i).2.2.2 = false) (hd : ty0 i = ty) (hn : narrow ty v = v) (hfit : fits ty v = true) (hl : i < fs.length) (hdg : decode cc pc = .ok (.putfield index, 3))
    (kk : ∀ (H1 : Heap) (locs1 : List Loc), Hw G (va_up c k (.inr (ci, fs.set i v))) s H1 → va_S (gA G) H0 H1 locs1 → W p l e R s m args below meth cd H1 locs1 cells slots Q (F0 m (pc + 3) ls rest)) : W p l e R s m args below meth cd H locs cells slots Q (F0 m pc ls (v :: .ref (gad G k) :: rest)) := by
  refine va_put hx hb hts hin ty0 hty hnm hown hw.2.1 hw.1 hw.2.2.1 hS k (cw_at2 hk hc) hcl i hi hlink (fun _ h => h) hfin ((hty i hi).trans (congrArg some hd)) hn hfit hl hdg (fun H1 locs1 hP hD hS1 => ?_)
  rw [cw_set] at hP hD
  exact kk H1 locs1 ⟨hP, hw.2.1, hD, hw.2.2.2.1, hw.2.2.2.2.1, hX.kept hS1.2.1⟩ hS1
theorem w_iald {k n : Nat} {f : Nat → Int32} {i : Int32} (hx : p.tables.exec = Jvm.exec) (hb : cd.code = cc) (hw : Hw G c s H) (hk : k < 45) (hc : c k = .inl (gI G, n, .inl f)) (hin : vp_in i n) (hdg : decode cc pc = .ok (.iaload, 1))
    (kk : W p l e R s m args below meth cd H locs cells slots Q (F0 m (pc + 1) ls (.int (f i.toNatClampNeg) :: rest))) : W p l e R s m args below meth cd H locs cells slots Q (F0 m pc ls (.int i :: .ref (gad G k) :: rest)) :=
  va_iald hx hb hw.2.1 hw.1 k 0 (cw_at2 hk hc) rfl hin hdg kk
/-- an int array read at a counted place -/
theorem w_ialdN {k n j : Nat} {f : Nat → Int32} {i : Int32} (hx : p.tables.exec = Jvm.exec) (hb : cd.code = cc) (hw : Hw G c s H) (hk : k < 45) (hc : c k = .inl (gI G, n, .inl f)) (hi : i = nI j) (hj : j < n) (hn : n < 2 ^ 31) (hdg : decode cc pc = .ok (.iaload, 1))
    (kk : W p l e R s m args below meth cd H locs cells slots Q (F0 m (pc + 1) ls (.int (f j) :: rest))) : W p l e R s m args below meth cd H locs cells slots Q (F0 m pc ls (.int i :: .ref (gad G k) :: rest)) := by
  subst hi
  refine w_iald hx hb hw hk hc (vp_in_nI hj hn) hdg ?_
  rw [nI_clamp (Nat.lt_trans hj hn)]
  exact kk
theorem w_iast {k n : Nat} {f : Nat → Int32} {i x : Int32} (hx : p.tables.exec = Jvm.exec) (hb : cd.code = cc) (hw : Hw G c s H) (hX : Sw G s H0) (hS : va_S (gA G) H0 H locs) (hk : k < 45) (hc : c k = .inl (gI G, n, .inl f)) (hin : vp_in i n) (hdg : decode cc pc = .ok (.iastore, 1))
    (kk : ∀ (H1 : Heap) (locs1 : List Loc), Hw G (va_up c k (.inl (gI G, n, .inl (upd f i.toNatClampNeg x)))) s H1 → va_S (gA G) H0 H1 locs1 → W p l e R s m args below meth cd H1 locs1 cells slots Q (F0 m (pc + 1) ls rest)) : W p l e R s m args below meth cd H locs cells slots Q (F0 m pc ls (.int x :: .int i :: .ref (gad G k) :: rest)) := by
  refine va_iast hx hb hw.2.1 hw.1 hw.2.2.1 hS k 0 (cw_at2 hk hc) rfl hin hdg (fun H1 locs1 hP hD hS1 => ?_)
  rw [cw_set] at hP hD
  exact kk H1 locs1 ⟨hP, hw.2.1, hD, hw.2.2.2.1, hw.2.2.2.2.1, hX.kept hS1.2.1⟩ hS1
theorem w_iastN {k n j : Nat} {f : Nat → Int32} {i x : Int32} (hx : p.tables.exec = Jvm.exec) (hb : cd.code = cc) (hw : Hw G c s H) (hX : Sw G s H0) (hS : va_S (gA G) H0 H locs) (hk : k < 45) (hc : c k = .inl (gI G, n, .inl f)) (hi : i = nI j) (hj : j < n) (hn : n < 2 ^ 31) (hdg : decode cc pc = .ok (.iastore, 1))
    (kk : ∀ (H1 : Heap) (locs1 : List Loc), Hw G (va_up c k (.inl (gI G, n, .inl (upd f j x)))) s H1 → va_S (gA G) H0 H1 locs1 → W p l e R s m args below meth cd H1 locs1 cells slots Q (F0 m (pc + 1) ls rest)) : W p l e R s m args below meth cd H locs cells slots Q (F0 m pc ls (.int x :: .int i :: .ref (gad G k) :: rest)) := by
  subst hi
  refine w_iast hx hb hw hX hS hk hc (vp_in_nI hj hn) hdg (fun H1 locs1 h1 h2 => ?_)
  rw [nI_clamp (Nat.lt_trans hj hn)] at h1
  exact kk H1 locs1 h1 h2
theorem w_alen {k n : Nat} {f : Nat → Int32} (hx : p.tables.exec = Jvm.exec) (hb : cd.code = cc) (hw : Hw G c s H) (hk : k < 45) (hc : c k = .inl (gI G, n, .inl f)) (hdg : decode cc pc = .ok (.arraylength, 1))
    (kk : W p l e R s m args below meth cd H locs cells slots Q (F0 m (pc + 1) ls (.int (nI n) :: rest))) : W p l e R s m args below meth cd H locs cells slots Q (F0 m pc ls (.ref (gad G k) :: rest)) :=
  va_alen hx hb hw.2.1 hw.1 k 0 (cw_at2 hk hc) rfl rfl hdg kk
/-- calls: how they run -/
theorem rV {y : MethodName} {bytes : ByteArray} {maxL nL n index k ci N : Nat} {ret : Option FieldType} {ws : List Cond} {rm : Room} {Qc : Array Value → State → Outcome → State → Prop} {free : Addr → Prop} {Ts : List Cond} {own C : String} {T : u_T} {As st : List Value} {fs : List Value}
    (S : CallFix p m cd cc nL s args Ts own) (hw : Hw G c s H) (hM : Met l y ws rm (va_Pc (.ref (gad G k) :: As) (fun U => Hw G c U U.heap)) Qc 0 0 free) (cwv : CallW R s args own C index y bytes maxL ret ws rm 0 0 n) (hk : k < 45) (hc : c k = .inr (ci, fs)) (hcl : vwCl[ci]? = some (C, T, N))
    (hn : As.length = n) (hsize : ls.size = nL) (hst : st = As.reverse ++ .ref (gad G k) :: rest) (hcat : (rest.map fun v => v.category).sum ≤ 8) (hdg : decode cc pc = .ok (.invokevirtual index, 3)) (hf : cells ≤ R.cells ∧ slots ≤ R.slots) :
    va_Run p l e R s m args below meth cd H locs cells slots 0 0 (F0 m pc ls st) rest (Qc (Value.ref (gad G k) :: As).toArray) free :=
  va_runV S hM cwv ⟨fb_H, va_recv hw.2.1 hw.1 hcl (cw_at2 hk hc), fun U hU hW => ⟨rfl, hw.to hU hW⟩⟩ rfl hn hsize hst (lv_room hcat) hdg hf
theorem rVT {y : MethodName} {bytes : ByteArray} {maxL nL n index k ci N : Nat} {ret : Option FieldType} {ws : List Cond} {rm : Room} {Qc : Array Value → State → Outcome → State → Prop} {free : Addr → Prop} {Ts : List Cond} {own C : String} {T : u_T} {As st : List Value} {fs : List Value}
    (S : CallFix p m cd cc nL s args Ts own) (hw : Hw G c s H) (hM : Met l y ws rm (va_Pc (.ref (gad G k) :: As) (fun _ => True)) Qc 0 0 free) (cwv : CallW R s args own C index y bytes maxL ret ws rm 0 0 n) (hk : k < 45) (hc : c k = .inr (ci, fs)) (hcl : vwCl[ci]? = some (C, T, N))
    (hn : As.length = n) (hsize : ls.size = nL) (hst : st = As.reverse ++ .ref (gad G k) :: rest) (hcat : (rest.map fun v => v.category).sum ≤ 8) (hdg : decode cc pc = .ok (.invokevirtual index, 3)) (hf : cells ≤ R.cells ∧ slots ≤ R.slots) :
    va_Run p l e R s m args below meth cd H locs cells slots 0 0 (F0 m pc ls st) rest (Qc (Value.ref (gad G k) :: As).toArray) free :=
  va_runV S hM cwv ⟨fb_T, va_recv hw.2.1 hw.1 hcl (cw_at2 hk hc), fun U hU hW => ⟨rfl, trivial⟩⟩ rfl hn hsize hst (lv_room hcat) hdg hf
theorem rS {y : MethodName} {bytes : ByteArray} {maxL nL n index : Nat} {ret : Option FieldType} {ws : List Cond} {rm : Room} {Qc : Array Value → State → Outcome → State → Prop} {free : Addr → Prop} {Ts : List Cond} {own : String} {As st : List Value}
    (S : CallFix p m cd cc nL s args Ts own) (hw : Hw G c s H) (hM : Met l y ws rm (va_Pc As (fun U => Hw G c U U.heap)) Qc 0 0 free) (cws : CallB R s args own index y bytes maxL ret ws rm 0 0 n ∧ (Cond.static y).before args s = true)
    (hn : As.length = n) (hsize : ls.size = nL) (hst : st = As.reverse ++ rest) (hcat : (rest.map fun v => v.category).sum ≤ 8) (hdg : decode cc pc = .ok (.invokestatic index, 3)) (hf : cells ≤ R.cells ∧ slots ≤ R.slots) :
    va_Run p l e R s m args below meth cd H locs cells slots 0 0 (F0 m pc ls st) rest (Qc As.toArray) free :=
  va_runS S hM cws ⟨fb_H, fun U hU hW => ⟨rfl, hw.to hU hW⟩⟩ rfl hn hsize hst (lv_room hcat) hdg hf
theorem rST {y : MethodName} {bytes : ByteArray} {maxL nL n index : Nat} {ret : Option FieldType} {ws : List Cond} {rm : Room} {Qc : Array Value → State → Outcome → State → Prop} {free : Addr → Prop} {Ts : List Cond} {own : String} {As st : List Value}
    (S : CallFix p m cd cc nL s args Ts own) (hM : Met l y ws rm (va_Pc As (fun _ => True)) Qc 0 0 free) (cws : CallB R s args own index y bytes maxL ret ws rm 0 0 n ∧ (Cond.static y).before args s = true)
    (hn : As.length = n) (hsize : ls.size = nL) (hst : st = As.reverse ++ rest) (hcat : (rest.map fun v => v.category).sum ≤ 8) (hdg : decode cc pc = .ok (.invokestatic index, 3)) (hf : cells ≤ R.cells ∧ slots ≤ R.slots) :
    va_Run p l e R s m args below meth cd H locs cells slots 0 0 (F0 m pc ls st) rest (Qc As.toArray) free :=
  va_runS S hM cws ⟨fb_T, fun U hU hW => ⟨rfl, trivial⟩⟩ rfl hn hsize hst (lv_room hcat) hdg hf
theorem rSN {y : MethodName} {bytes : ByteArray} {maxL nL n index : Nat} {ret : Option FieldType} {ws : List Cond} {rm : Room} {Qc : Array Value → State → Outcome → State → Prop} {free : Addr → Prop} {Ts : List Cond} {own host : String} {As st : List Value}
    (S : CallFix p m cd cc nL s args Ts own) (hM : Met l y ws rm (va_Pc As (fun _ => True)) Qc 0 0 free) (cws : va_CN R s args own index y host bytes maxL ret ws rm 0 0 n ∧ (Cond.static y).before args s = true ∧ True)
    (hn : As.length = n) (hsize : ls.size = nL) (hst : st = As.reverse ++ rest) (hcat : (rest.map fun v => v.category).sum ≤ 8) (hdg : decode cc pc = .ok (.invokestatic index, 3)) (hf : cells ≤ R.cells ∧ slots ≤ R.slots) :
    va_Run p l e R s m args below meth cd H locs cells slots 0 0 (F0 m pc ls st) rest (Qc As.toArray) free :=
  va_runSN S hM cws ⟨fb_T, fun U hU hW => ⟨rfl, trivial⟩⟩ rfl hn hsize hst (lv_room hcat) hdg hf
/-- behind a call -/
theorem cSi {post : Int32 → Prop} {a : Array Value} {st0 : List Value} (hr : va_Run p l e R s m args below meth cd H locs cells slots 0 0 (F0 m pc ls st0) rest (vp_Si post a) (fun _ => False)) (kk : ∀ r : Int32, post r → W p l e R s m args below meth cd H locs cells slots Q (F0 m (pc + 3) ls (.int r :: rest))) : W p l e R s m args below meth cd H locs cells slots Q (F0 m pc ls st0) := vp_callSi hr.run kk
theorem cSe {v : Int32} {a : Array Value} {st0 : List Value} (hr : va_Run p l e R s m args below meth cd H locs cells slots 0 0 (F0 m pc ls st0) rest (vp_Si (fun r => r = v) a) (fun _ => False)) (kk : W p l e R s m args below meth cd H locs cells slots Q (F0 m (pc + 3) ls (.int v :: rest))) : W p l e R s m args below meth cd H locs cells slots Q (F0 m pc ls st0) := vp_callSi hr.run (fun r h => by subst h; exact kk)
theorem cSl {v : Int64} {a : Array Value} {st0 : List Value} (hr : va_Run p l e R s m args below meth cd H locs cells slots 0 0 (F0 m pc ls st0) rest (vp_Sl (fun r => r = v) a) (fun _ => False)) (kk : W p l e R s m args below meth cd H locs cells slots Q (F0 m (pc + 3) ls (.long v :: rest))) : W p l e R s m args below meth cd H locs cells slots Q (F0 m pc ls st0) := vp_callSl hr.run (fun r h => by subst h; exact kk)
theorem cQi {post : Int32 → (Nat → va_E) → Prop} {a : Array Value} {st0 : List Value} (hr : va_Run p l e R s m args below meth cd H locs cells slots 0 0 (F0 m pc ls st0) rest (va_Qi post (fun c' t => Hw G c' t t.heap) (gA G) a) (gA G)) (hw : Hw G c s H) (hS : va_S (gA G) H0 H locs) (kk : ∀ (r : Int32) (c1 : Nat → va_E) (H1 : Heap) (locs1 : List Loc), post r c1 → Hw G c1 s H1 → va_S (gA G) H0 H1 locs1 → W p l e R s m args below meth cd H1 locs1 cells slots Q (F0 m (pc + 3) ls (.int r :: rest))) : W p l e R s m args below meth cd H locs cells slots Q (F0 m pc ls st0) :=
  va_calli hr hS (fun _ _ h => h) (fun _ h => h) (fun r u t H1 locs1 ht hvm hp hB _ _ hS1 => kk r u H1 locs1 hp (hw.back ht hvm hB) hS1)
theorem cQl {post : Int64 → (Nat → va_E) → Prop} {a : Array Value} {st0 : List Value} (hr : va_Run p l e R s m args below meth cd H locs cells slots 0 0 (F0 m pc ls st0) rest (va_Ql post (fun c' t => Hw G c' t t.heap) (gA G) a) (gA G)) (hw : Hw G c s H) (hS : va_S (gA G) H0 H locs) (kk : ∀ (r : Int64) (c1 : Nat → va_E) (H1 : Heap) (locs1 : List Loc), post r c1 → Hw G c1 s H1 → va_S (gA G) H0 H1 locs1 → W p l e R s m args below meth cd H1 locs1 cells slots Q (F0 m (pc + 3) ls (.long r :: rest))) : W p l e R s m args below meth cd H locs cells slots Q (F0 m pc ls st0) :=
  va_calll hr hS (fun _ _ h => h) (fun _ h => h) (fun r u t H1 locs1 ht hvm hp hB _ _ hS1 => kk r u H1 locs1 hp (hw.back ht hvm hB) hS1)
theorem cQv {post : (Nat → va_E) → Prop} {a : Array Value} {st0 : List Value} (hr : va_Run p l e R s m args below meth cd H locs cells slots 0 0 (F0 m pc ls st0) rest (va_Qv post (fun c' t => Hw G c' t t.heap) (gA G) a) (gA G)) (hw : Hw G c s H) (hS : va_S (gA G) H0 H locs) (kk : ∀ (c1 : Nat → va_E) (H1 : Heap) (locs1 : List Loc), post c1 → Hw G c1 s H1 → va_S (gA G) H0 H1 locs1 → W p l e R s m args below meth cd H1 locs1 cells slots Q (F0 m (pc + 3) ls rest)) : W p l e R s m args below meth cd H locs cells slots Q (F0 m pc ls st0) :=
  va_callv hr hS (fun _ _ h => h) (fun _ h => h) (fun u t H1 locs1 ht hvm hp hB _ _ hS1 => kk u H1 locs1 hp (hw.back ht hvm hB) hS1)
end BW
