/-! What all contracts share: a bundle of what stays the same through the run, contracts of methods that only read, a loop as a function. -/
/-- class ids, slots, ids of array classes, addresses of constants -/
abbrev xG : Type := (Nat → ClassId) × (Nat → Nat → Nat) × (Nat → ClassId) × (Nat → Nat)
abbrev xD (G : xG) : va_G := (G.1, G.2.1)
abbrev xy (G : xG) (k : Nat) : ClassId := G.2.2.1 k
abbrev xa (G : xG) (k : Nat) : Nat := G.2.2.2 k
abbrev xT (G : xG) : List (ClassId × FieldType) := [(xy G 0, .int), (xy G 1, .boolean), (xy G 2, .object RX7), (xy G 3, .object RX8)]
def xNM : List (String × Nat × MethodName) := [("FallingGlass", 18, ⟨"FallingGlass$Text", "<init>", "()V"⟩), ("FallingGlass", 41, ⟨"FallingGlass$KeyTrial", "<init>", "()V"⟩), ("FallingGlass$Book", 40, ⟨"FallingGlass", "copy", "([I[I)V"⟩), ("FallingGlass$Book", 44, ⟨"FallingGlass", "put", "([III)V"⟩), ("FallingGlass$Book", 55, ⟨"FallingGlass", "at", "([II)I"⟩), ("FallingGlass$Book", 91, ⟨"FallingGlass", "thousandths", "(II)I"⟩), ("FallingGlass$Book", 96, ⟨"FallingGlass$Lot", "<init>", "()V"⟩), ("FallingGlass$Chart", 28, ⟨"FallingGlass", "copy", "([I[I)V"⟩), ("FallingGlass$Chart", 32, ⟨"FallingGlass", "put", "([III)V"⟩), ("FallingGlass$Chart", 44, ⟨"FallingGlass", "at", "([II)I"⟩), ("FallingGlass$Hay", 30, ⟨"FallingGlass", "within", "(III)Z"⟩), ("FallingGlass$Hay", 38, ⟨"FallingGlass", "at", "([II)I"⟩), ("FallingGlass$KeyTrial", 40, ⟨"FallingGlass", "at", "([II)I"⟩), ("FallingGlass$KeyTrial", 44, ⟨"FallingGlass", "thousandths", "(II)I"⟩), ("FallingGlass$KeyTrial", 60, ⟨"FallingGlass", "put", "([III)V"⟩), ("FallingGlass$Lot", 22, ⟨"FallingGlass", "choose", "(II)J"⟩), ("FallingGlass$Scores", 24, ⟨"FallingGlass", "put", "([III)V"⟩), ("FallingGlass$Scores", 28, ⟨"FallingGlass", "at", "([II)I"⟩), ("FallingGlass$State", 106, ⟨"FallingGlass", "within", "(III)Z"⟩), ("FallingGlass$State", 11, ⟨"FallingGlass$Brass", "<init>", "()V"⟩), ("FallingGlass$State", 112, ⟨"FallingGlass$Lot", "<init>", "()V"⟩), ("FallingGlass$State", 20, ⟨"FallingGlass$Book", "<init>", "()V"⟩), ("FallingGlass$State", 27, ⟨"FallingGlass$Chart", "<init>", "()V"⟩), ("FallingGlass$State", 48, ⟨"FallingGlass$Text", "<init>", "()V"⟩), ("FallingGlass$Text", 19, ⟨"FallingGlass", "copy", "([I[I)V"⟩), ("FallingGlass$Text", 23, ⟨"FallingGlass", "put", "([III)V"⟩), ("FallingGlass$Text", 27, ⟨"FallingGlass", "at", "([II)I"⟩), ("FallingGlass$Text", 39, ⟨"FallingGlass", "isDigit", "(I)Z"⟩)]
def xNF : List (String × Nat × String × String) := [("FallingGlass$Book", 68, "KEY_LOOKS", "[I"), ("FallingGlass$Chart", 66, "EIGHTHS", "[I"), ("FallingGlass$Hay", 34, "TENS", "[I")]
def xKL : Nat → Int32 := fun j => ([0, 5, 1, 2, 3, 4] : List Int32).getD j 0
def xEI : Nat → Int32 := fun j => ([5, 4, 3, 6, -6, 2, 7, 0, 1] : List Int32).getD j 0
def xTE : Nat → Int32 := fun j => ([1, 10, 100, 1000, 10000, 100000, 1000000, 10000000, 100000000, 1000000000] : List Int32).getD j 0
/-- the constants in the heap, none of them at a place of A -/
def xC (G : xG) (A : Nat → Prop) (U : State) (H : Heap) : Prop :=
  (va_Z "FallingGlass" "KEY_LOOKS" "[I" (.ref (xa G 0)) A U H ∧ va_T .int (xa G 0) 6 (fun j => .int (xKL j)) A U H) ∧
  (va_Z "FallingGlass" "EIGHTHS" "[I" (.ref (xa G 1)) A U H ∧ va_T .int (xa G 1) 9 (fun j => .int (xEI j)) A U H) ∧
  (va_Z "FallingGlass" "TENS" "[I" (.ref (xa G 2)) A U H ∧ va_T .int (xa G 2) 10 (fun j => .int (xTE j)) A U H) ∧
  vk_S 1 [7] [[112, 119, 115, 109, 121, 100, 117]] (fun _ => xa G 3) (fun _ => xa G 4) A U H ∧
  va_Z "java/lang/String" "COMPACT_STRINGS" "Z" (.int 1) A U H
/-- what stays the same: classes, links across the nest, the constants -/
def xE (G : xG) (A : Nat → Prop) (U : State) : Prop :=
  va_K (xD G) vwCl (xT G) U ∧ (∀ q ∈ xNM, va_Nw (.methodLinkNest q.1 q.2.1 q.2.2 "FallingGlass") U) ∧ (∀ q ∈ xNF, va_Nw (.fieldLinkNest q.1 q.2.1 "FallingGlass" q.2.2.1 q.2.2.2 "FallingGlass") U) ∧ (vk_R RX8 46 "pwsmydu" (xa G 3) U ∧ va_AO RX8 U ∧ va_AO RX7 U) ∧ xC G A U U.heap
theorem xC.call {G : xG} {A A' : Nat → Prop} {s U : State} {H0 H : Heap} (h : xC G A s H0) (hv : s.vm.Alike U.vm) (hq : ∀ a : Nat, a < H0.size → ¬ A a → H[a]? = H0[a]?) (hA : ∀ q, A' q → A q) : xC G A' U H := by
  obtain ⟨⟨z0, t0⟩, ⟨z1, t1⟩, ⟨z2, t2⟩, hs, hc⟩ := h
  exact ⟨⟨((z0.moved hv).kept hq).narrow hA, ((t0.moved hv).kept hq).narrow hA⟩, ⟨((z1.moved hv).kept hq).narrow hA, ((t1.moved hv).kept hq).narrow hA⟩, ⟨((z2.moved hv).kept hq).narrow hA, ((t2.moved hv).kept hq).narrow hA⟩, ((hs.moved hv).kept hq).narrow hA, ((hc.moved hv).kept hq).narrow hA⟩
theorem xE.call {G : xG} {A A' : Nat → Prop} {s U : State} {H : Heap} {locs : List Loc} (h : xE G A s) (hS : va_S A s.heap H locs) (hU : U.heap = H) (hW : s.WarmedH U.vm) (hA : ∀ q, A' q → A q) : xE G A' U := by
  obtain ⟨h1, h2, h3, h4, h5⟩ := h
  have hv := hW.alike
  exact ⟨h1.moved hv, fun q hq => va_Nw.warmM hW (h2 q hq), fun q hq => va_Nw.warmF hW (h3 q hq), ⟨vk_R.warm hW h4.1, h4.2.1.moved hv, h4.2.2.moved hv⟩, by rw [hU]; exact h5.call hv (fun a p q => hS.2.1 a p q) hA⟩
theorem xE.blind {G : xG} {A : Nat → Prop} {U : State} (h : xE G A U) (g : JFrame) (mk : MethodId) (a : Array Value) : xE G A (U.calling g mk a) := by
  obtain ⟨h1, h2, h3, h4, h5⟩ := h
  have hv : U.vm.Alike (U.calling g mk a).vm := Vm.Alike.refl U.vm
  exact ⟨h1.moved hv, fun q hq => va_Nw.same rfl (u := U) rfl (h2 q hq), fun q hq => va_Nw.same rfl (u := U) rfl (h3 q hq), ⟨vk_R.same (u := U) rfl h4.1, h4.2.1.moved hv, h4.2.2.moved hv⟩, h5.call hv (fun _ _ _ => rfl) (fun _ h => h)⟩
/-! methods that only read -/
abbrev xN : Nat → Prop := fun _ => False
abbrev xPc (G : xG) (H0 : Heap) (av : List Value) : Array Value → State → Prop := va_Pc av (fun U => U.heap = H0 ∧ xE G xN U)
abbrev xQi (H0 : Heap) (r : Int32) : Array Value → State → Outcome → State → Prop := va_Qi (fun (r' : Int32) (_ : Unit) => r' = r) (fun _ t => t.heap = H0) xN
abbrev xQl (H0 : Heap) (r : Int64) : Array Value → State → Outcome → State → Prop := va_Ql (fun (r' : Int64) (_ : Unit) => r' = r) (fun _ t => t.heap = H0) xN
def xb (b : Bool) : Int32 := if b then 1 else 0
theorem xb_z (b : Bool) : narrow .boolean (.int (xb b)) = .int (xb b) := by cases b <;> rfl
theorem xb_t : xb true = 1 := rfl
theorem xb_f : xb false = 0 := rfl
theorem xb_0 (b : Bool) : (xb b = 0) ↔ b = false := by cases b <;> simp [xb]
theorem x_blind {G : xG} {H0 : Heap} {A : Nat → Prop} {av : List Value} : FrameBlind (va_Pc av (fun U => U.heap = H0 ∧ xE G A U)) := fun _ _ g mk h => ⟨h.1, h.2.1, h.2.2.blind g mk _⟩
theorem x_pre {G : xG} {A : Nat → Prop} {s : State} {H : Heap} {locs : List Loc} {av : List Value} (hE : xE G A s) (hS : va_S A s.heap H locs) : ∀ U : State, U.heap = H → s.WarmedH U.vm → xPc G H av av.toArray U := fun _ hU hW => ⟨rfl, hU, hE.call hS hU hW (fun _ h => h.elim)⟩
theorem x_preS {G : xG} {A : Nat → Prop} {s : State} {H : Heap} {locs : List Loc} {av : List Value} (hE : xE G A s) (hS : va_S A s.heap H locs) : PreS s H (xPc G H av) av := ⟨x_blind, x_pre hE hS⟩
theorem x_preV {G : xG} {A : Nat → Prop} {s : State} {H : Heap} {locs : List Loc} {av : List Value} {a ci q0 : Nat} {q : vw_C} {ws : va_W} {fs : List Value} (hE : xE G A s) (hS : va_S A s.heap H locs) (hP : va_P (xD G) vwCl ws H) (hc : vwCl[ci]? = some q) (he : ws[q0]? = some (a, .inr (ci, fs))) : PreV s H q.1 a (xPc G H (.ref a :: av)) av := ⟨x_blind, va_recv hE.1 hP hc he, x_pre hE hS⟩
section XA
variable {p : Program} {l : Launch} {e : Env} {R : Room} {s : State} {m : MethodId} {args : Array Value} {below : List Frame} {meth : Method} {c : Code} {H : Heap} {locs : List Loc} {cells slots : Nat} {Q : State → Prop}
variable {pc : Nat} {ls : Array Slot} {rest st0 : List Value} {a : Array Value}
theorem x_calli {r : Int32} (hr : va_Run p l e R s m args below meth c H locs cells slots 0 0 (F0 m pc ls st0) rest (xQi H r a) xN) (kk : W p l e R s m args below meth c H locs cells slots Q (F0 m (pc + 3) ls (.int r :: rest))) : W p l e R s m args below meth c H locs cells slots Q (F0 m pc ls st0) := by
  intro T hT X
  obtain ⟨v, st₀, t, T', L, h0, X', hL, e1, e2, ⟨⟨r', u, hv, hp, hb⟩, -, -⟩, st⟩ := hr T hT X
  cases hv
  cases hp
  obtain ⟨t2, a1, b1⟩ := kk T' (by rw [e1, hb]) (Stand.forget X' (fun q h => (hL q h).elim))
  exact ⟨t2, st t2 a1, b1⟩
theorem x_calll {r : Int64} (hr : va_Run p l e R s m args below meth c H locs cells slots 0 0 (F0 m pc ls st0) rest (xQl H r a) xN) (kk : W p l e R s m args below meth c H locs cells slots Q (F0 m (pc + 3) ls (.long r :: rest))) : W p l e R s m args below meth c H locs cells slots Q (F0 m pc ls st0) := by
  intro T hT X
  obtain ⟨v, st₀, t, T', L, h0, X', hL, e1, e2, ⟨⟨r', u, hv, hp, hb⟩, -, -⟩, st⟩ := hr T hT X
  cases hv
  cases hp
  obtain ⟨t2, a1, b1⟩ := kk T' (by rw [e1, hb]) (Stand.forget X' (fun q h => (hL q h).elim))
  exact ⟨t2, st t2 a1, b1⟩
theorem x_iret {cc : ByteArray} {H0 : Heap} {v r : Int32} (hexec : p.tables.exec = Jvm.exec) (hb : c.code = cc) (hr : meth.sig.returnType = some .int) (hlocks : meth.locks = false) (hH : s.heap = H0) (hv : v = r) (hdg : decode cc pc = .ok (.ireturn, 1)) : W p l e R s m args below meth c s.heap [] 0 0 (MQ below (xQi H0 r) args s 0 0 xN) (F0 m pc ls [.int v]) :=
  W.iret hexec hb hr (fun t ht _ => ⟨⟨v, (), rfl, hv, ht.trans hH⟩, by rw [ht]; exact Nat.le_refl _, fun q _ _ => by rw [ht]⟩) (fun _ h => by cases h) hdg hlocks
theorem x_zret {cc : ByteArray} {H0 : Heap} {v r : Int32} {b : Bool} (hexec : p.tables.exec = Jvm.exec) (hb : c.code = cc) (hr : meth.sig.returnType = some .boolean) (hlocks : meth.locks = false) (hH : s.heap = H0) (hvb : v = xb b) (hv : xb b = r) (hdg : decode cc pc = .ok (.ireturn, 1)) : W p l e R s m args below meth c s.heap [] 0 0 (MQ below (xQi H0 r) args s 0 0 xN) (F0 m pc ls [.int v]) :=
  W.zret hexec hb hr (by rw [hvb]; exact xb_z b) (fun t ht _ => ⟨⟨v, (), rfl, hvb.trans hv, ht.trans hH⟩, by rw [ht]; exact Nat.le_refl _, fun q _ _ => by rw [ht]⟩) (fun _ h => by cases h) hdg hlocks
theorem x_nret {cc : ByteArray} {H0 : Heap} {v r : Int32} {ty : FieldType} (hexec : p.tables.exec = Jvm.exec) (hb : c.code = cc) (hr : meth.sig.returnType = some ty) (hlocks : meth.locks = false) (hn : narrow ty (.int v) = .int v) (hH : s.heap = H0) (hv : v = r) (hdg : decode cc pc = .ok (.ireturn, 1)) : W p l e R s m args below meth c s.heap [] 0 0 (MQ below (xQi H0 r) args s 0 0 xN) (F0 m pc ls [.int v]) :=
  W.zret hexec hb hr hn (fun t ht _ => ⟨⟨v, (), rfl, hv, ht.trans hH⟩, by rw [ht]; exact Nat.le_refl _, fun q _ _ => by rw [ht]⟩) (fun _ h => by cases h) hdg hlocks
theorem x_lret {cc : ByteArray} {H0 : Heap} {v r : Int64} (hexec : p.tables.exec = Jvm.exec) (hb : c.code = cc) (hr : meth.sig.returnType = some .long) (hlocks : meth.locks = false) (hH : s.heap = H0) (hv : v = r) (hdg : decode cc pc = .ok (.lreturn, 1)) : W p l e R s m args below meth c s.heap [] 0 0 (MQ below (xQl H0 r) args s 0 0 xN) (F0 m pc ls [.long v]) :=
  W.lret hexec hb hr (fun t ht _ => ⟨⟨v, (), rfl, hv, ht.trans hH⟩, by rw [ht]; exact Nat.le_refl _, fun q _ _ => by rw [ht]⟩) (fun _ h => by cases h) hdg hlocks
end XA
/-- what a body may use -/
abbrev xAt (G : xG) (A : Nat → Prop) (p : Program) (s : State) (m : MethodId) (args : Array Value) (meth : Method) (c : Code) (y : MethodName) (ws : List Cond) (cc : ByteArray) (maxL : Nat) (ret : Option FieldType) : Prop :=
  p.tables.exec = Jvm.exec ∧ c.code = cc ∧ meth.sig.returnType = ret ∧ meth.locks = false ∧ c.maxLocals = maxL ∧ s.vm.findClass y.cls = some m.cls ∧ (∀ w ∈ ws, w.before args s = true) ∧ xE G A s
theorem x_met {y : MethodName} {ws ws' : List Cond} {rm : Room} {cc : ByteArray} {maxL : Nat} {ret : Option FieldType} {l : Launch} {G : xG} {H0 : Heap} {av : List Value} {Qc : Array Value → State → Outcome → State → Prop} (hy : plainName y.cls = true) (hw : ws = Cond.code y cc maxL ret :: ws') (hn : (lg_sl av).length ≤ maxL)
    (body : ∀ (p : Program) (e : Env) (s : State) (m : MethodId) (below : List Frame) (meth : Method) (c : Code) (ls : Array Slot), s.heap = H0 → xAt G xN p s m av.toArray meth c y ws cc maxL ret → lv_has ls maxL (lv_args 0 av) → W p l e rm s m av.toArray below meth c s.heap [] 0 0 (MQ below Qc av.toArray s 0 0 xN) (F0 m 0 ls [])) : Met l y ws rm (xPc G H0 av) Qc 0 0 xN := by
  refine Met.ofW (cc := cc) (maxL := maxL) (ret := ret) hy hw ?_
  intro p e s m args below meth c s₁ B hml hv
  obtain ⟨rfl, hH, hE⟩ := hv
  have hts := atoms_spec (ws := ws) B.pre
  have hown : s.vm.findClass y.cls = some m.cls := findClass_of_methodNamed B.named
  have hl := lv_entry av (n := maxL) hn
  rw [lg_entry_eq]
  exact body p e s m below meth c _ hH ⟨B.exec, B.bytes, B.returns, B.notSynchronized, hml, hown, hts, hE⟩ hl
/-! a loop as a function: a step ends (inl) or goes on (inr) -/
def x_fuel {σ τ : Type} (step : σ → Option (τ ⊕ σ)) : Nat → σ → Option τ
  | 0, _ => none
  | n + 1, s => match step s with
    | none => none
    | some (.inl r) => some r
    | some (.inr s') => x_fuel step n s'
theorem x_fuel_mono {σ τ : Type} {step : σ → Option (τ ⊕ σ)} : ∀ (n : Nat) (s : σ) (r : τ), x_fuel step n s = some r → x_fuel step (n + 1) s = some r
  | 0, s, r, h => by simp [x_fuel] at h
  | n + 1, s, r, h => by
    rw [x_fuel] at h ⊢
    cases hs : step s with
    | none => rw [hs] at h; simp at h
    | some o =>
      cases o with
      | inl q => rw [hs] at h; simpa using h
      | inr q =>
        rw [hs] at h
        exact x_fuel_mono n q r h
theorem x_fuel_le {σ τ : Type} {step : σ → Option (τ ⊕ σ)} {n m : Nat} (hnm : n ≤ m) {s : σ} {r : τ} (h : x_fuel step n s = some r) : x_fuel step m s = some r := by
  induction hnm with
  | refl => exact h
  | step _ ih => exact x_fuel_mono _ _ _ ih
noncomputable def x_loop {σ τ : Type} (step : σ → Option (τ ⊕ σ)) (s : σ) : Option τ := @dite (Option τ) (∃ r n, x_fuel step n s = some r) (Classical.propDecidable _) (fun h => some h.choose) (fun _ => none)
theorem x_fuel_det {σ τ : Type} {step : σ → Option (τ ⊕ σ)} {n m : Nat} {s : σ} {r r' : τ} (h : x_fuel step n s = some r) (h' : x_fuel step m s = some r') : r = r' := by
  have a := x_fuel_le (Nat.le_max_left n m) h
  have b := x_fuel_le (Nat.le_max_right n m) h'
  exact Option.some.inj (a.symm.trans b)
theorem x_loop_iff {σ τ : Type} {step : σ → Option (τ ⊕ σ)} {s : σ} {r : τ} : x_loop step s = some r ↔ ∃ n, x_fuel step n s = some r := by
  unfold x_loop
  by_cases h : ∃ r n, x_fuel step n s = some r
  · rw [dif_pos h]
    obtain ⟨n, hn⟩ := h.choose_spec
    constructor
    · intro q
      cases Option.some.inj q
      exact ⟨n, hn⟩
    · rintro ⟨k, hk⟩
      rw [x_fuel_det hn hk]
  · rw [dif_neg h]
    constructor
    · intro q; cases q
    · rintro ⟨k, hk⟩
      exact absurd ⟨r, k, hk⟩ h
theorem x_loop_inl {σ τ : Type} {step : σ → Option (τ ⊕ σ)} {s : σ} {r : τ} (h : step s = some (.inl r)) : x_loop step s = some r := x_loop_iff.mpr ⟨1, by simp [x_fuel, h]⟩
theorem x_loop_inr {σ τ : Type} {step : σ → Option (τ ⊕ σ)} {s s' : σ} (h : step s = some (.inr s')) : x_loop step s = x_loop step s' := by
  apply Option.ext
  intro r
  constructor
  · intro q
    obtain ⟨n, hn⟩ := x_loop_iff.mp q
    cases n with
    | zero => simp [x_fuel] at hn
    | succ n =>
      rw [x_fuel, h] at hn
      exact x_loop_iff.mpr ⟨n, hn⟩
  · intro q
    obtain ⟨n, hn⟩ := x_loop_iff.mp q
    exact x_loop_iff.mpr ⟨n + 1, by rw [x_fuel, h]; exact hn⟩
/-- along a loop that ends with o: what holds at its head, by what the step does -/
theorem x_loop_ind {σ τ : Type} {step : σ → Option (τ ⊕ σ)} {K : τ → Prop} (motive : σ → Prop) (hs : ∀ (s : σ) (o : τ ⊕ σ), step s = some o → Sum.elim K motive o → motive s) {s : σ} {o : τ} (h : x_loop step s = some o) (ho : K o) : motive s := by
  obtain ⟨n, hn⟩ := x_loop_iff.mp h
  revert s
  induction n with
  | zero => intro s _ hn; simp [x_fuel] at hn
  | succ n ih =>
    intro s h hn
    rw [x_fuel] at hn
    cases hq : step s with
    | none => rw [hq] at hn; simp at hn
    | some q =>
      cases q with
      | inl r =>
        rw [hq] at hn
        cases Option.some.inj hn
        exact hs s _ hq ho
      | inr s' =>
        rw [hq] at hn
        exact hs s _ hq (ih (x_loop_iff.mpr ⟨n, hn⟩) hn)
def x_up {τ σ : Type} (x : Option τ) : Option (τ ⊕ σ) := x.map .inl
theorem x_up_some {τ σ : Type} {x : Option τ} {o : τ ⊕ σ} (h : x_up x = some o) : ∃ r, x = some r ∧ o = .inl r := by
  cases x with
  | none => cases h
  | some r => exact ⟨r, rfl, (Option.some.inj h).symm⟩
theorem x_bind {α β : Type} {x : Option α} {f : α → Option β} {o : β} (h : x.bind f = some o) : ∃ r, x = some r ∧ f r = some o := by
  cases x with
  | none => cases h
  | some r => exact ⟨r, rfl, h⟩
/-- a test that must hold for the machine to go on -/
def x_need {α : Type} (P : Prop) [Decidable P] (x : Option α) : Option α := if P then x else none
theorem x_needs {α : Type} {P : Prop} [Decidable P] {x : Option α} {o : α} (h : x_need P x = some o) : P ∧ x = some o := by
  unfold x_need at h
  by_cases hp : P
  · rw [if_pos hp] at h; exact ⟨hp, h⟩
  · rw [if_neg hp] at h; cases h
abbrev x_in (i : Int32) (n : Nat) : Prop := ¬ (i < 0 ∨ n ≤ i.toNatClampNeg)
/-- along a loop, the step's ends told by a predicate: what ends the loop, what goes on at its head -/
theorem x_loop_walk {σ τ : Type} {step : σ → Option (τ ⊕ σ)} {K : τ → Prop} (motive : σ → Prop) (hs : ∀ K1 : τ ⊕ σ → Prop, (∀ r, K1 (.inl r) → K r) → (∀ s, K1 (.inr s) → motive s) → ∀ (s : σ) (o : τ ⊕ σ), step s = some o → K1 o → motive s) {s : σ} {o : τ} (h : x_loop step s = some o) (ho : K o) : motive s :=
  x_loop_ind motive (fun s o h1 h2 => hs (Sum.elim K motive) (fun _ q => q) (fun _ q => q) s o h1 h2) h ho
abbrev xW (p : Program) (l : Launch) (e : Env) (rm : Room) (s : State) (m : MethodId) (av : List Value) (below : List Frame) (meth : Method) (c : Code) (Qc : Array Value → State → Outcome → State → Prop) (g : JFrame) : Prop := W p l e rm s m av.toArray below meth c s.heap [] 0 0 (MQ below Qc av.toArray s 0 0 xN) g
/-- a link across the nest, out of what stays the same -/
theorem xE.nm {G : xG} {A : Nat → Prop} {s : State} (h : xE G A s) (k : Nat) {own : String} {i : Nat} {y : MethodName} (hk : xNM[k]? = some (own, i, y)) : va_Nw (.methodLinkNest own i y "FallingGlass") s := h.2.1 (own, i, y) (List.mem_of_getElem? hk)
theorem xE.nf {G : xG} {A : Nat → Prop} {s : State} (h : xE G A s) (k : Nat) {own : String} {i : Nat} {n d : String} (hk : xNF[k]? = some (own, i, n, d)) : va_Nw (.fieldLinkNest own i "FallingGlass" n d "FallingGlass") s := h.2.2.1 (own, i, n, d) (List.mem_of_getElem? hk)
theorem xE.t0 {G : xG} {A : Nat → Prop} {s : State} (h : xE G A s) : va_Z "FallingGlass" "KEY_LOOKS" "[I" (.ref (xa G 0)) A s s.heap ∧ va_T .int (xa G 0) 6 (fun j => .int (xKL j)) A s s.heap := h.2.2.2.2.1
theorem xE.t1 {G : xG} {A : Nat → Prop} {s : State} (h : xE G A s) : va_Z "FallingGlass" "EIGHTHS" "[I" (.ref (xa G 1)) A s s.heap ∧ va_T .int (xa G 1) 9 (fun j => .int (xEI j)) A s s.heap := h.2.2.2.2.2.1
theorem xE.t2 {G : xG} {A : Nat → Prop} {s : State} (h : xE G A s) : va_Z "FallingGlass" "TENS" "[I" (.ref (xa G 2)) A s s.heap ∧ va_T .int (xa G 2) 10 (fun j => .int (xTE j)) A s s.heap := h.2.2.2.2.2.2.1
/-! methods that write: the world in, the world out, at the same places -/
abbrev xPcw (G : xG) (A : Nat → Prop) (H0 : Heap) (av : List Value) : Array Value → State → Prop := va_Pc av (fun U => U.heap = H0 ∧ xE G A U)
abbrev xRi (G : xG) (A : Nat → Prop) (w : va_W) (r : Int32) : Array Value → State → Outcome → State → Prop := va_Qi (fun (r' : Int32) (_ : Unit) => r' = r) (fun _ t => va_P (xD G) vwCl w t.heap ∧ va_D A w) A
abbrev xRl (G : xG) (A : Nat → Prop) (w : va_W) (r : Int64) : Array Value → State → Outcome → State → Prop := va_Ql (fun (r' : Int64) (_ : Unit) => r' = r) (fun _ t => va_P (xD G) vwCl w t.heap ∧ va_D A w) A
abbrev xRv (G : xG) (A : Nat → Prop) (w : va_W) : Array Value → State → Outcome → State → Prop := va_Qv (fun (_ : Unit) => True) (fun _ t => va_P (xD G) vwCl w t.heap ∧ va_D A w) A
abbrev xV (p : Program) (l : Launch) (e : Env) (rm : Room) (s : State) (m : MethodId) (av : List Value) (below : List Frame) (meth : Method) (c : Code) (H : Heap) (locs : List Loc) (cells slots mc ms : Nat) (A : Nat → Prop) (Qc : Array Value → State → Outcome → State → Prop) (g : JFrame) : Prop := W p l e rm s m av.toArray below meth c H locs cells slots (MQ below Qc av.toArray s mc ms A) g
def x4 (a b c d : Nat) : Nat → Option Nat := fun k => ([some a, some b, some c, some d] : List (Option Nat)).getD k none
def x2 (a b : Option Nat) : Nat → Option Nat := fun k => ([a, b] : List (Option Nat)).getD k none
/-- a part of a world put back at its places: for each cell, which of the part's it is now (none: it stays) -/
def x_mk : List (Option Nat) → va_W → va_W → va_W
  | none :: ps, w, c :: ws => c :: x_mk ps w ws
  | some j :: ps, w, c :: ws => w.getD j c :: x_mk ps w ws
  | [], _, ws => ws
  | _ :: _, _, [] => []
def x_idx (k : Nat) : List Nat → Nat → Option Nat
  | [], _ => none
  | i :: is, n => if i = k then some n else x_idx k is (n + 1)
def x_pos (is : List Nat) (n : Nat) : List (Option Nat) := (List.range n).map (fun k => x_idx k is 0)
theorem x_idx_some : ∀ (is : List Nat) (k n j : Nat), x_idx k is n = some j → n ≤ j ∧ is[j - n]? = some k
  | [], k, n, j, h => by cases h
  | i :: is, k, n, j, h => by
    unfold x_idx at h
    by_cases hi : i = k
    · rw [if_pos hi] at h
      cases h
      exact ⟨Nat.le_refl _, by rw [Nat.sub_self, hi]; rfl⟩
    · rw [if_neg hi] at h
      obtain ⟨h1, h2⟩ := x_idx_some is k (n + 1) j h
      refine ⟨by omega, ?_⟩
      rw [show j - n = (j - (n + 1)) + 1 by omega, List.getElem?_cons_succ]
      exact h2
theorem x_idx_none : ∀ (is : List Nat) (k n : Nat), x_idx k is n = none → k ∉ is
  | [], k, n, h => List.not_mem_nil
  | i :: is, k, n, h => by
    unfold x_idx at h
    by_cases hi : i = k
    · rw [if_pos hi] at h; cases h
    · rw [if_neg hi] at h
      exact fun z => (List.mem_cons.mp z).elim (fun e => hi e.symm) (x_idx_none is k (n + 1) h)
theorem x_mk_at : ∀ (ps : List (Option Nat)) (w ws : va_W) (k : Nat) (q : Nat × va_E), (x_mk ps w ws)[k]? = some q → ((ps[k]? = some none ∨ ps.length ≤ k) ∧ ws[k]? = some q) ∨ ∃ (j : Nat) (c : Nat × va_E), ps[k]? = some (some j) ∧ w.getD j c = q
  | [], w, ws, k, q, h => Or.inl ⟨Or.inr (Nat.zero_le _), by simpa [x_mk] using h⟩
  | none :: ps, w, [], k, q, h => by simp [x_mk] at h
  | some _ :: ps, w, [], k, q, h => by simp [x_mk] at h
  | none :: ps, w, c :: ws, k, q, h => by
    cases k with
    | zero => exact Or.inl ⟨Or.inl rfl, h⟩
    | succ k =>
      rcases x_mk_at ps w ws k q h with ⟨h1 | h1, h2⟩ | h1
      · exact Or.inl ⟨Or.inl h1, h2⟩
      · exact Or.inl ⟨Or.inr (Nat.succ_le_succ h1), h2⟩
      · exact Or.inr h1
  | some j :: ps, w, c :: ws, k, q, h => by
    cases k with
    | zero => exact Or.inr ⟨j, c, rfl, Option.some.inj h⟩
    | succ k =>
      rcases x_mk_at ps w ws k q h with ⟨h1 | h1, h2⟩ | h1
      · exact Or.inl ⟨Or.inl h1, h2⟩
      · exact Or.inl ⟨Or.inr (Nat.succ_le_succ h1), h2⟩
      · exact Or.inr h1
/-- the places of a part, and for each cell which of the part's it is -/
def x_ps (is : List Nat) (n : Nat) (pos : List (Option Nat)) : Bool := decide (x_pos is n = pos) && is.all (fun i => decide (i < n))
theorem x_put_at {is : List Nat} {pos : List (Option Nat)} {n : Nat} {w ws : va_W} (hl : is.length = w.length) (hpos : x_ps is n pos = true) (k : Nat) (q : Nat × va_E) (h : (x_mk pos w ws)[k]? = some q) : (∃ j : Nat, w[j]? = some q ∧ is[j]? = some k) ∨ (k ∉ is ∧ ws[k]? = some q) := by
  unfold x_ps at hpos
  rw [Bool.and_eq_true, decide_eq_true_eq, List.all_eq_true] at hpos
  obtain ⟨hpos, hlt⟩ := hpos
  have hlen : pos.length = n := by rw [← hpos, x_pos, List.length_map, List.length_range]
  have hp : ∀ o, pos[k]? = some o → x_idx k is 0 = o := by
    intro o ho
    rw [← hpos, x_pos, List.getElem?_map] at ho
    cases hr : (List.range n)[k]? with
    | none => rw [hr] at ho; cases ho
    | some z =>
      rw [hr] at ho
      have hz : z = k := by
        have := List.getElem?_eq_some_iff.mp hr
        obtain ⟨h1, h2⟩ := this
        rw [List.getElem_range] at h2
        exact h2.symm
      rw [hz] at ho
      exact Option.some.inj ho
  rcases x_mk_at pos w ws k q h with ⟨h1 | h1, h2⟩ | ⟨j, c, h1, h2⟩
  · exact Or.inr ⟨x_idx_none is k 0 (hp _ h1), h2⟩
  · refine Or.inr ⟨fun hk => ?_, h2⟩
    have := hlt k hk
    rw [decide_eq_true_eq] at this
    omega
  · obtain ⟨-, h3⟩ := x_idx_some is k 0 j (hp _ h1)
    rw [Nat.sub_zero] at h3
    have hj : j < w.length := by rw [← hl]; exact (List.getElem?_eq_some_iff.mp h3).1
    refine Or.inl ⟨j, ?_, h3⟩
    rw [List.getD_eq_getElem?_getD, List.getElem?_eq_getElem hj] at h2
    rw [List.getElem?_eq_getElem hj]
    exact congrArg some h2
theorem x_merge {D : va_G} {cl : List vw_C} {A : Nat → Prop} {ws wc w1 : va_W} {H H1 : Heap} (hP : va_P D cl ws H) (hD : va_D A ws) (is : List Nat) {pos : List (Option Nat)} {n : Nat} (hpos : x_ps is n pos = true) (hC : is.map (fun i => ws[i]?) = wc.map some) (ha : w1.map Prod.fst = wc.map Prod.fst)
    (hk : ∀ q : Nat, q < H.size → ¬ va_A wc H.size q → H1[q]? = H[q]?) (hP1 : va_P D cl w1 H1) : va_P D cl (x_mk pos w1 ws) H1 ∧ va_D A (x_mk pos w1 ws) := by
  have hl1 : is.length = wc.length := by simpa using congrArg List.length hC
  have hl2 : w1.length = wc.length := by simpa using congrArg List.length ha
  have hl : is.length = w1.length := hl1.trans hl2.symm
  have atC : ∀ (j k : Nat), is[j]? = some k → ∃ q, wc[j]? = some q ∧ ws[k]? = some q := by
    intro j k hj
    have h1 : (is.map (fun i => ws[i]?))[j]? = some (ws[k]?) := by rw [List.getElem?_map, hj]; rfl
    rw [hC, List.getElem?_map] at h1
    cases hq : wc[j]? with
    | none => rw [hq] at h1; cases h1
    | some q => rw [hq] at h1; exact ⟨q, rfl, (Option.some.inj h1).symm⟩
  have atR : ∀ (k : Nat) (q : Nat × va_E), k ∉ is → ws[k]? = some q → ¬ va_A wc H.size q.1 := by
    intro k q hk1 hq h
    rcases h with ⟨k2, e, h⟩ | h
    · have h2 : (wc.map some)[k2]? = some (some (q.1, e)) := by rw [List.getElem?_map, h]; rfl
      rw [← hC, List.getElem?_map] at h2
      cases hi : is[k2]? with
      | none => rw [hi] at h2; cases h2
      | some i =>
        rw [hi] at h2
        have := hD.1 k i q (q.1, e) hq (Option.some.inj h2) rfl
        subst this
        exact hk1 (List.mem_of_getElem? hi)
    · exact absurd (hP k q hq).lt (Nat.not_lt.mpr h)
  have adr : ∀ (k : Nat) (q : Nat × va_E), (x_mk pos w1 ws)[k]? = some q → ∃ q0, ws[k]? = some q0 ∧ q0.1 = q.1 := by
    intro k q hq
    rcases x_put_at hl hpos k q hq with ⟨j, h1, h2⟩ | ⟨-, h2⟩
    · obtain ⟨q0, h3, h4⟩ := atC j k h2
      have h5 : (w1.map Prod.fst)[j]? = some q.1 := by rw [List.getElem?_map, h1]; rfl
      rw [ha, List.getElem?_map, h3] at h5
      exact ⟨q0, h4, Option.some.inj h5⟩
    · exact ⟨q, h2, rfl⟩
  refine ⟨fun k q hq => ?_, fun i j x y hx hy hxy => ?_, fun k q hq => ?_⟩
  · rcases x_put_at hl hpos k q hq with ⟨j, h1, -⟩ | ⟨h1, h2⟩
    · exact hP1 j q h1
    · exact (hP k q h2).kept (hk q.1 (hP k q h2).lt (atR k q h1 h2))
  · obtain ⟨x0, a1, a2⟩ := adr i x hx
    obtain ⟨y0, b1, b2⟩ := adr j y hy
    exact hD.1 i j x0 y0 a1 b1 (a2.trans (hxy.trans b2.symm))
  · obtain ⟨q0, a1, a2⟩ := adr k q hq
    rw [← a2]
    exact hD.2 k q0 a1
theorem x_blindw {G : xG} {H0 : Heap} {A : Nat → Prop} {av : List Value} : FrameBlind (xPcw G A H0 av) := fun _ _ g mk h => ⟨h.1, h.2.1, h.2.2.blind g mk _⟩
theorem x_preSw {G : xG} {A A' : Nat → Prop} {s : State} {H : Heap} {locs : List Loc} {av : List Value} (hE : xE G A s) (hS : va_S A s.heap H locs) (hF : ∀ q, A' q → A q) : PreS s H (xPcw G A' H av) av := ⟨x_blindw, fun _ hU hW => ⟨rfl, hU, hE.call hS hU hW hF⟩⟩
theorem x_preVw {G : xG} {A A' : Nat → Prop} {s : State} {H : Heap} {locs : List Loc} {av : List Value} {a ci q0 : Nat} {q : vw_C} {ws : va_W} {fs : List Value} (hE : xE G A s) (hS : va_S A s.heap H locs) (hF : ∀ q, A' q → A q) (hP : va_P (xD G) vwCl ws H) (hc : vwCl[ci]? = some q) (he : ws[q0]? = some (a, .inr (ci, fs))) : PreV s H q.1 a (xPcw G A' H (.ref a :: av)) av := ⟨x_blindw, va_recv hE.1 hP hc he, fun _ hU hW => ⟨rfl, hU, hE.call hS hU hW hF⟩⟩
section XB
variable {p : Program} {l : Launch} {e : Env} {R : Room} {s : State} {m : MethodId} {args : Array Value} {below : List Frame} {meth : Method} {c : Code} {H : Heap} {locs : List Loc} {cells slots : Nat} {Q : State → Prop}
variable {pc : Nat} {ls : Array Slot} {rest st0 : List Value} {a : Array Value} {G : xG} {A : Nat → Prop} {ws wc w1 ws' : va_W} {mc ms : Nat}
theorem x_callwi {r : Int32} (hr : va_Run p l e R s m args below meth c H locs cells slots mc ms (F0 m pc ls st0) rest (xRi G (va_A wc H.size) w1 r a) (va_A wc H.size)) (hP : va_P (xD G) vwCl ws H) (hD : va_D A ws) (hS : va_S A s.heap H locs) (hF : ∀ q, va_A wc H.size q → A q) (is : List Nat) (pos : List (Option Nat)) {n : Nat} (hpos : x_ps is n pos = true) (hC : is.map (fun i => ws[i]?) = wc.map some) (ha : w1.map Prod.fst = wc.map Prod.fst) (hw : x_mk pos w1 ws = ws')
    (kk : ∀ (H : Heap) (locs : List Loc), va_P (xD G) vwCl ws' H → va_D A ws' → va_S A s.heap H locs → W p l e R s m args below meth c H locs (cells + mc) (slots + ms) Q (F0 m (pc + 3) ls (.int r :: rest))) : W p l e R s m args below meth c H locs cells slots Q (F0 m pc ls st0) := by
  refine va_calli hr hS (fun q _ h => hF q h) hF (fun r' u t H1 locs1 ht _ hp hB _ hk hS1 => ?_)
  cases hp
  rw [ht] at hB
  obtain ⟨h1, h2⟩ := x_merge hP hD is hpos hC ha hk hB.1
  rw [hw] at h1 h2
  exact kk H1 locs1 h1 h2 hS1
theorem x_callwl {r : Int64} (hr : va_Run p l e R s m args below meth c H locs cells slots mc ms (F0 m pc ls st0) rest (xRl G (va_A wc H.size) w1 r a) (va_A wc H.size)) (hP : va_P (xD G) vwCl ws H) (hD : va_D A ws) (hS : va_S A s.heap H locs) (hF : ∀ q, va_A wc H.size q → A q) (is : List Nat) (pos : List (Option Nat)) {n : Nat} (hpos : x_ps is n pos = true) (hC : is.map (fun i => ws[i]?) = wc.map some) (ha : w1.map Prod.fst = wc.map Prod.fst) (hw : x_mk pos w1 ws = ws')
    (kk : ∀ (H : Heap) (locs : List Loc), va_P (xD G) vwCl ws' H → va_D A ws' → va_S A s.heap H locs → W p l e R s m args below meth c H locs (cells + mc) (slots + ms) Q (F0 m (pc + 3) ls (.long r :: rest))) : W p l e R s m args below meth c H locs cells slots Q (F0 m pc ls st0) := by
  refine va_calll hr hS (fun q _ h => hF q h) hF (fun r' u t H1 locs1 ht _ hp hB _ hk hS1 => ?_)
  cases hp
  rw [ht] at hB
  obtain ⟨h1, h2⟩ := x_merge hP hD is hpos hC ha hk hB.1
  rw [hw] at h1 h2
  exact kk H1 locs1 h1 h2 hS1
theorem x_callwv (hr : va_Run p l e R s m args below meth c H locs cells slots mc ms (F0 m pc ls st0) rest (xRv G (va_A wc H.size) w1 a) (va_A wc H.size)) (hP : va_P (xD G) vwCl ws H) (hD : va_D A ws) (hS : va_S A s.heap H locs) (hF : ∀ q, va_A wc H.size q → A q) (is : List Nat) (pos : List (Option Nat)) {n : Nat} (hpos : x_ps is n pos = true) (hC : is.map (fun i => ws[i]?) = wc.map some) (ha : w1.map Prod.fst = wc.map Prod.fst) (hw : x_mk pos w1 ws = ws')
    (kk : ∀ (H : Heap) (locs : List Loc), va_P (xD G) vwCl ws' H → va_D A ws' → va_S A s.heap H locs → W p l e R s m args below meth c H locs (cells + mc) (slots + ms) Q (F0 m (pc + 3) ls rest)) : W p l e R s m args below meth c H locs cells slots Q (F0 m pc ls st0) := by
  refine va_callv hr hS (fun q _ h => hF q h) hF (fun u t H1 locs1 ht _ _ hB _ hk hS1 => ?_)
  rw [ht] at hB
  obtain ⟨h1, h2⟩ := x_merge hP hD is hpos hC ha hk hB.1
  rw [hw] at h1 h2
  exact kk H1 locs1 h1 h2 hS1
theorem x_iretw {cc : ByteArray} {v r : Int32} (hexec : p.tables.exec = Jvm.exec) (hb : c.code = cc) (hr : meth.sig.returnType = some .int) (hlocks : meth.locks = false) (hP : va_P (xD G) vwCl ws H) (hD : va_D A ws) (hS : va_S A s.heap H locs) (hv : v = r) (hdg : decode cc pc = .ok (.ireturn, 1)) : W p l e R s m args below meth c H locs cells slots (MQ below (xRi G A ws r) args s cells slots A) (F0 m pc ls [.int v]) :=
  W.iret hexec hb hr (fun t ht _ => ⟨⟨v, (), rfl, hv, by rw [ht]; exact hP, hD⟩, hS.F ht⟩) hS.2.2 hdg hlocks
theorem x_zretw {cc : ByteArray} {v r : Int32} {b : Bool} (hexec : p.tables.exec = Jvm.exec) (hb : c.code = cc) (hr : meth.sig.returnType = some .boolean) (hlocks : meth.locks = false) (hP : va_P (xD G) vwCl ws H) (hD : va_D A ws) (hS : va_S A s.heap H locs) (hvb : v = xb b) (hv : xb b = r) (hdg : decode cc pc = .ok (.ireturn, 1)) : W p l e R s m args below meth c H locs cells slots (MQ below (xRi G A ws r) args s cells slots A) (F0 m pc ls [.int v]) :=
  W.zret hexec hb hr (by rw [hvb]; exact xb_z b) (fun t ht _ => ⟨⟨v, (), rfl, hvb.trans hv, by rw [ht]; exact hP, hD⟩, hS.F ht⟩) hS.2.2 hdg hlocks
theorem x_lretw {cc : ByteArray} {v r : Int64} (hexec : p.tables.exec = Jvm.exec) (hb : c.code = cc) (hr : meth.sig.returnType = some .long) (hlocks : meth.locks = false) (hP : va_P (xD G) vwCl ws H) (hD : va_D A ws) (hS : va_S A s.heap H locs) (hv : v = r) (hdg : decode cc pc = .ok (.lreturn, 1)) : W p l e R s m args below meth c H locs cells slots (MQ below (xRl G A ws r) args s cells slots A) (F0 m pc ls [.long v]) :=
  W.lret hexec hb hr (fun t ht _ => ⟨⟨v, (), rfl, hv, by rw [ht]; exact hP, hD⟩, hS.F ht⟩) hS.2.2 hdg hlocks
theorem x_vretw {cc : ByteArray} (hexec : p.tables.exec = Jvm.exec) (hb : c.code = cc) (hr : meth.sig.returnType = none) (hlocks : meth.locks = false) (hP : va_P (xD G) vwCl ws H) (hD : va_D A ws) (hS : va_S A s.heap H locs) (hdg : decode cc pc = .ok (.return_, 1)) : W p l e R s m args below meth c H locs cells slots (MQ below (xRv G A ws) args s cells slots A) (F0 m pc ls []) :=
  W.vret hexec hb hr (fun t ht _ => ⟨⟨(), rfl, trivial, by rw [ht]; exact hP, hD⟩, hS.F ht⟩) hS.2.2 hdg hlocks
end XB
theorem x_metw {y : MethodName} {ws ws' : List Cond} {rm : Room} {cc : ByteArray} {maxL : Nat} {ret : Option FieldType} {l : Launch} {G : xG} {H0 : Heap} {av : List Value} {w0 : va_W} {mc ms : Nat} {Qc : (Nat → Prop) → Array Value → State → Outcome → State → Prop} (hy : plainName y.cls = true) (hw : ws = Cond.code y cc maxL ret :: ws') (hn : (lg_sl av).length ≤ maxL) (hP : va_P (xD G) vwCl w0 H0) (hD : va_D (fun _ => True) w0)
    (body : ∀ (p : Program) (e : Env) (s : State) (m : MethodId) (below : List Frame) (meth : Method) (c : Code) (ls : Array Slot) (A : Nat → Prop) (H : Heap) (locs : List Loc), (∀ q, s.heap.size ≤ q → A q) → xAt G A p s m av.toArray meth c y ws cc maxL ret → meth.name = y.name → lv_has ls maxL (lv_args 0 av) → va_P (xD G) vwCl w0 H → va_D A w0 → va_S A s.heap H locs → W p l e rm s m av.toArray below meth c H locs 0 0 (MQ below (Qc A) av.toArray s mc ms A) (F0 m 0 ls [])) : Met l y ws rm (xPcw G (va_A w0 H0.size) H0 av) (Qc (va_A w0 H0.size)) mc ms (va_A w0 H0.size) := by
  refine Met.ofW (cc := cc) (maxL := maxL) (ret := ret) hy hw ?_
  intro p e s m args below meth c s₁ B hml hv
  obtain ⟨rfl, hH, hE⟩ := hv
  subst hH
  have hts := atoms_spec (ws := ws) B.pre
  have hown : s.vm.findClass y.cls = some m.cls := findClass_of_methodNamed B.named
  have hl := lv_entry av (n := maxL) hn
  rw [lg_entry_eq]
  exact body p e s m below meth c _ (va_A w0 s.heap.size) s.heap [] (fun q h => Or.inr h) ⟨B.exec, B.bytes, B.returns, B.notSynchronized, hml, hown, hts, hE⟩ (name_of_methodNamed B.named B.method).1 hl hP hD.self va_S.rf
theorem x_bool {v : Int32} (h : v = 0 ∨ v = 1) : v = xb (decide (v = 1)) := by
  rcases h with rfl | rfl <;> rfl
def xLT : Nat → Int32 := fun j => ([112, 119, 115, 109, 121, 100, 117] : List Int32).getD j 0
theorem xE.sr {G : xG} {A : Nat → Prop} {s : State} (h : xE G A s) : vk_R RX8 46 "pwsmydu" (xa G 3) s := h.2.2.2.1.1
theorem xE.ss {G : xG} {A : Nat → Prop} {s : State} (h : xE G A s) : vk_S 1 [7] [[112, 119, 115, 109, 121, 100, 117]] (fun _ => xa G 3) (fun _ => xa G 4) A s s.heap := h.2.2.2.2.2.2.2.1
theorem xE.t3 {G : xG} {A : Nat → Prop} {s : State} (h : xE G A s) : True ∧ va_T .byte (xa G 4) 7 (fun j => .int (xLT j)) A s s.heap := ⟨trivial, (h.ss.1 0 (by decide)).2.2.2⟩
theorem xE.sv {G : xG} {A : Nat → Prop} {s : State} (h : xE G A s) : va_OF "java/lang/String" "value" "[B" (.ref (xa G 4)) (xa G 3) A s s.heap := (h.ss.1 0 (by decide)).2.2.1
theorem xE.sc {G : xG} {A : Nat → Prop} {s : State} (h : xE G A s) : va_OF "java/lang/String" "coder" "B" (.int 0) (xa G 3) A s s.heap := (h.ss.1 0 (by decide)).2.1
theorem xE.zc {G : xG} {A : Nat → Prop} {s : State} (h : xE G A s) : va_Z "java/lang/String" "COMPACT_STRINGS" "Z" (.int 1) A s s.heap := h.2.2.2.2.2.2.2.2
theorem x_preVs {G : xG} {A : Nat → Prop} {s : State} {H : Heap} {locs : List Loc} {av : List Value} (hE : xE G A s) (hS : va_S A s.heap H locs) : PreV s H "java/lang/String" (xa G 3) (xPc G H (.ref (xa G 3) :: av)) av := ⟨x_blind, vk_recv hE.ss (i := 0) (by decide) hS, x_pre hE hS⟩
/-- an answer that is a reference or null -/
abbrev xQg (H0 : Heap) (v : Value) : Array Value → State → Outcome → State → Prop := fun _ st oc t => (oc = .returned (some v) ∧ t.heap = H0) ∧ va_F xN st t
section XG
variable {p : Program} {l : Launch} {e : Env} {R : Room} {s : State} {m : MethodId} {args : Array Value} {below : List Frame} {meth : Method} {c : Code} {H : Heap} {locs : List Loc} {cells slots : Nat} {Q : State → Prop}
variable {pc : Nat} {ls : Array Slot} {rest st0 : List Value} {a : Array Value}
theorem x_callg {v : Value} (hr : va_Run p l e R s m args below meth c H locs cells slots 0 0 (F0 m pc ls st0) rest (xQg H v a) xN) (kk : W p l e R s m args below meth c H locs cells slots Q (F0 m (pc + 3) ls (v :: rest))) : W p l e R s m args below meth c H locs cells slots Q (F0 m pc ls st0) := by
  intro T hT X
  obtain ⟨v', st₀, t, T', L, h0, X', hL, e1, e2, ⟨⟨hv, hb⟩, -⟩, st⟩ := hr T hT X
  cases hv
  obtain ⟨t2, a1, b1⟩ := kk T' (by rw [e1, hb]) (Stand.forget X' (fun q h => (hL q h).elim))
  exact ⟨t2, st t2 a1, b1⟩
theorem x_aret {cc : ByteArray} {H0 : Heap} {v : Value} {rt : FieldType} (hexec : p.tables.exec = Jvm.exec) (hb : c.code = cc) (hr : meth.sig.returnType = some rt) (hrt : (∃ n, rt = .object n) ∨ ∃ t, rt = .array t) (hv : v = .null ∨ ∃ a, v = .ref a) (hlocks : meth.locks = false) (hH : s.heap = H0) (hdg : decode cc pc = .ok (.areturn, 1)) : W p l e R s m args below meth c s.heap [] 0 0 (MQ below (xQg H0 v) args s 0 0 xN) (F0 m pc ls [v]) :=
  W.aret hexec hb hr hrt hv (fun t ht _ => ⟨⟨rfl, ht.trans hH⟩, by rw [ht]; exact Nat.le_refl _, fun q _ _ => by rw [ht]⟩) (fun _ h => by cases h) hdg hlocks
end XG
/-! making: new cells behind the world -/
theorem x_mergeN {D : va_G} {cl : List vw_C} {A : Nat → Prop} {ws wc w1 wn : va_W} {H H1 : Heap} (hP : va_P D cl ws H) (hD : va_D A ws) (is : List Nat) {pos : List (Option Nat)} {n : Nat} (hpos : x_ps is n pos = true) (hC : is.map (fun i => ws[i]?) = wc.map some) (ha : w1.map Prod.fst = wc.map Prod.fst)
    (hk : ∀ q : Nat, q < H.size → ¬ va_A wc H.size q → H1[q]? = H[q]?) (hF : ∀ q, va_A wc H.size q → A q) (hP1 : va_P D cl (w1 ++ wn) H1) (hD1 : va_D (va_A wc H.size) (w1 ++ wn)) : va_P D cl (x_mk pos w1 ws ++ wn) H1 ∧ va_D A (x_mk pos w1 ws ++ wn) := by
  have hl2 : w1.length = wc.length := by simpa using congrArg List.length ha
  have inL : ∀ (k : Nat) (q : Nat × va_E), w1[k]? = some q → (w1 ++ wn)[k]? = some q := fun k q h => by
    rw [List.getElem?_append_left (List.getElem?_eq_some_iff.mp h).1]; exact h
  have inR : ∀ (k : Nat) (q : Nat × va_E), wn[k]? = some q → (w1 ++ wn)[w1.length + k]? = some q := fun k q h => by
    rw [List.getElem?_append_right (Nat.le_add_right _ _), Nat.add_sub_cancel_left]; exact h
  obtain ⟨m1, m2⟩ := x_merge hP hD is hpos hC ha hk (fun k q h => hP1 k q (inL k q h))
  have adr : ∀ (k : Nat) (q : Nat × va_E), (x_mk pos w1 ws)[k]? = some q → q.1 < H.size := by
    intro k q hq
    have hl1 : is.length = wc.length := by simpa using congrArg List.length hC
    rcases x_put_at (hl1.trans hl2.symm) hpos k q hq with ⟨j, h1, h2⟩ | ⟨-, h2⟩
    · have h5 : (w1.map Prod.fst)[j]? = some q.1 := by rw [List.getElem?_map, h1]; rfl
      rw [ha, List.getElem?_map] at h5
      cases hq0 : wc[j]? with
      | none => rw [hq0] at h5; cases h5
      | some q0 =>
        rw [hq0] at h5
        have h6 : (is.map (fun i => ws[i]?))[j]? = some (some q0) := by rw [hC, List.getElem?_map, hq0]; rfl
        rw [List.getElem?_map, h2] at h6
        have h7 : q0.1 = q.1 := Option.some.inj h5
        rw [← h7]
        exact (hP k q0 (Option.some.inj h6)).lt
    · exact (hP k q h2).lt
  have apart : ∀ (k j : Nat) (p q : Nat × va_E), (x_mk pos w1 ws)[k]? = some p → wn[j]? = some q → p.1 ≠ q.1 := by
    intro k j p q hp hq e
    rcases hD1.2 _ q (inR j q hq) with ⟨k2, e2, h⟩ | h
    · have h5 : (w1.map Prod.fst)[k2]? = some q.1 := by rw [ha, List.getElem?_map, h]; rfl
      rw [List.getElem?_map] at h5
      cases hq0 : w1[k2]? with
      | none => rw [hq0] at h5; cases h5
      | some q0 =>
        rw [hq0] at h5
        have h6 := hD1.1 _ _ q0 q (inL k2 q0 hq0) (inR j q hq) (Option.some.inj h5)
        have h7 := (List.getElem?_eq_some_iff.mp hq0).1
        omega
    · have := adr k p hp
      omega
  refine ⟨va_P.app m1 (fun k q h => hP1 _ q (inR k q h)), va_D.app m2 ⟨fun i j p q hp hq e => ?_, fun k q h => hF q.1 (hD1.2 _ q (inR k q h))⟩ apart⟩
  have := hD1.1 _ _ p q (inR i p hp) (inR j q hq) e
  omega
abbrev xRc (G : xG) (A : Nat → Prop) (w : (Nat → Nat) → va_W) : Array Value → State → Outcome → State → Prop := va_Qv (fun (_ : Unit) => True) (fun _ t => ∃ ad, va_P (xD G) vwCl (w ad) t.heap ∧ va_D A (w ad)) A
abbrev xRr (G : xG) (A : Nat → Prop) (w : Nat → va_W) : Array Value → State → Outcome → State → Prop := va_Qr (fun (_ : Unit) => True) (fun _ a t => va_P (xD G) vwCl (w a) t.heap ∧ va_D A (w a)) A
abbrev xRk (G : xG) (A : Nat → Prop) (w : (Nat → Nat) → va_W) (r : Int32) : Array Value → State → Outcome → State → Prop := va_Qi (fun (r' : Int32) (_ : Unit) => r' = r) (fun _ t => ∃ ad, va_P (xD G) vwCl (w ad) t.heap ∧ va_D A (w ad)) A
section XC
variable {p : Program} {l : Launch} {e : Env} {R : Room} {s : State} {m : MethodId} {args : Array Value} {below : List Frame} {meth : Method} {c : Code} {H : Heap} {locs : List Loc} {cells slots : Nat} {Q : State → Prop}
variable {pc : Nat} {ls : Array Slot} {rest st0 : List Value} {a : Array Value} {G : xG} {A : Nat → Prop} {ws wc w1 : va_W} {mc ms : Nat}
theorem x_callwc {c0 wn : (Nat → Nat) → va_W} (hr : va_Run p l e R s m args below meth c H locs cells slots mc ms (F0 m pc ls st0) rest (xRc G (va_A wc H.size) (fun ad => c0 ad ++ wn ad) a) (va_A wc H.size)) (hP : va_P (xD G) vwCl ws H) (hD : va_D A ws) (hS : va_S A s.heap H locs) (hF : ∀ q, va_A wc H.size q → A q) (is : List Nat) (pos : List (Option Nat)) {n : Nat} (hpos : x_ps is n pos = true) (hC : is.map (fun i => ws[i]?) = wc.map some) (ha : ∀ ad, (c0 ad).map Prod.fst = wc.map Prod.fst)
    (kk : ∀ (ad : Nat → Nat) (H : Heap) (locs : List Loc), va_P (xD G) vwCl (x_mk pos (c0 ad) ws ++ wn ad) H → va_D A (x_mk pos (c0 ad) ws ++ wn ad) → va_S A s.heap H locs → W p l e R s m args below meth c H locs (cells + mc) (slots + ms) Q (F0 m (pc + 3) ls rest)) : W p l e R s m args below meth c H locs cells slots Q (F0 m pc ls st0) := by
  refine va_callv hr hS (fun q _ h => hF q h) hF (fun u t H1 locs1 ht _ _ hB _ hk hS1 => ?_)
  rw [ht] at hB
  obtain ⟨ad, hB1, hB2⟩ := hB
  obtain ⟨h1, h2⟩ := x_mergeN hP hD is hpos hC (ha ad) hk hF hB1 hB2
  exact kk ad H1 locs1 h1 h2 hS1
theorem x_callwr {wn : Nat → va_W} (hr : va_Run p l e R s m args below meth c H locs cells slots mc ms (F0 m pc ls st0) rest (xRr G (va_A wc H.size) (fun q => w1 ++ wn q) a) (va_A wc H.size)) (hP : va_P (xD G) vwCl ws H) (hD : va_D A ws) (hS : va_S A s.heap H locs) (hF : ∀ q, va_A wc H.size q → A q) (is : List Nat) (pos : List (Option Nat)) {n : Nat} (hpos : x_ps is n pos = true) (hC : is.map (fun i => ws[i]?) = wc.map some) (ha : w1.map Prod.fst = wc.map Prod.fst)
    (kk : ∀ (q : Nat) (H : Heap) (locs : List Loc), va_P (xD G) vwCl (x_mk pos w1 ws ++ wn q) H → va_D A (x_mk pos w1 ws ++ wn q) → va_S A s.heap H locs → W p l e R s m args below meth c H locs (cells + mc) (slots + ms) Q (F0 m (pc + 3) ls (.ref q :: rest))) : W p l e R s m args below meth c H locs cells slots Q (F0 m pc ls st0) := by
  refine va_callr hr hS (fun q _ h => hF q h) hF (fun u q t H1 locs1 ht _ _ hB _ hk hS1 => ?_)
  rw [ht] at hB
  obtain ⟨h1, h2⟩ := x_mergeN hP hD is hpos hC ha hk hF hB.1 hB.2
  exact kk q H1 locs1 h1 h2 hS1
theorem x_cret {cc : ByteArray} {w : (Nat → Nat) → va_W} (ad : Nat → Nat) (hexec : p.tables.exec = Jvm.exec) (hb : c.code = cc) (hr : meth.sig.returnType = none) (hlocks : meth.locks = false) (hP : va_P (xD G) vwCl (w ad) H) (hD : va_D A (w ad)) (hS : va_S A s.heap H locs) (hdg : decode cc pc = .ok (.return_, 1)) : W p l e R s m args below meth c H locs cells slots (MQ below (xRc G A w) args s cells slots A) (F0 m pc ls []) :=
  W.vret hexec hb hr (fun t ht _ => ⟨⟨(), rfl, trivial, ad, by rw [ht]; exact hP, hD⟩, hS.F ht⟩) hS.2.2 hdg hlocks
theorem x_kret {cc : ByteArray} {w : (Nat → Nat) → va_W} {v r : Int32} (ad : Nat → Nat) (hexec : p.tables.exec = Jvm.exec) (hb : c.code = cc) (hr : meth.sig.returnType = some .int) (hlocks : meth.locks = false) (hP : va_P (xD G) vwCl (w ad) H) (hD : va_D A (w ad)) (hS : va_S A s.heap H locs) (hv : v = r) (hdg : decode cc pc = .ok (.ireturn, 1)) : W p l e R s m args below meth c H locs cells slots (MQ below (xRk G A w r) args s cells slots A) (F0 m pc ls [.int v]) :=
  W.iret hexec hb hr (fun t ht _ => ⟨⟨v, (), rfl, hv, ad, by rw [ht]; exact hP, hD⟩, hS.F ht⟩) hS.2.2 hdg hlocks
theorem x_rret {cc : ByteArray} {w : Nat → va_W} {q : Nat} {rt : FieldType} (hexec : p.tables.exec = Jvm.exec) (hb : c.code = cc) (hr : meth.sig.returnType = some rt) (hrt : (∃ n, rt = .object n) ∨ ∃ t, rt = .array t) (hlocks : meth.locks = false) (hP : va_P (xD G) vwCl (w q) H) (hD : va_D A (w q)) (hS : va_S A s.heap H locs) (hdg : decode cc pc = .ok (.areturn, 1)) : W p l e R s m args below meth c H locs cells slots (MQ below (xRr G A w) args s cells slots A) (F0 m pc ls [.ref q]) :=
  W.aret hexec hb hr hrt (Or.inr ⟨_, rfl⟩) (fun t ht _ => ⟨⟨(), q, rfl, trivial, by rw [ht]; exact hP, hD⟩, hS.F ht⟩) hS.2.2 hdg hlocks
theorem x_newi {cc : ByteArray} (hexec : p.tables.exec = Jvm.exec) (hb : c.code = cc) (harr : (Cond.arrayClass .int).before args s = true) (hE : xE G A s) (hP : va_P (xD G) vwCl ws H) (hD : va_D A ws) (hS : va_S A s.heap H locs) (hA : ∀ q, s.heap.size ≤ q → A q)
    {n : Int32} {N : Nat} (hn : ¬ n < 0) (hN : n.toNatClampNeg = N) (hbytes : N * 4 ≤ 536870912) (hcells : cells + 1 ≤ R.cells) (hslots : slots + N ≤ R.slots) (hdg : decode cc pc = .ok (.newarray .int, 2))
    (kk : ∀ (q : Nat) (H : Heap), va_P (xD G) vwCl (ws ++ [(q, .inl (xy G 0, N, .inl (fun _ => 0)))]) H → va_D A (ws ++ [(q, .inl (xy G 0, N, .inl (fun _ => 0)))]) → va_S A s.heap H locs → W p l e R s m args below meth c H locs (cells + 1) (slots + N) Q (F0 m (pc + 2) ls (.ref q :: rest))) : W p l e R s m args below meth c H locs cells slots Q (F0 m pc ls (.int n :: rest)) := by
  refine va_newa (atype := .int) (ty := .int) (a0 := (N, .inl (fun _ => 0))) hexec hb harr rfl hE.1 hP hD hS hA (fun _ => rfl) hn hN hbytes hcells hslots hdg (fun q cA H1 hK2 hP1 hD1 hS1 => ?_)
  have h1 := (hK2.2 4 (cA, .int) rfl).2
  have h2 := (hE.1.2 0 (xy G 0, .int) rfl).2
  have h3 : cA = xy G 0 := Option.some.inj (h1.symm.trans h2)
  subst h3
  exact kk q H1 hP1 hD1 hS1
theorem x_newz {cc : ByteArray} (hexec : p.tables.exec = Jvm.exec) (hb : c.code = cc) (harr : (Cond.arrayClass .boolean).before args s = true) (hE : xE G A s) (hP : va_P (xD G) vwCl ws H) (hD : va_D A ws) (hS : va_S A s.heap H locs) (hA : ∀ q, s.heap.size ≤ q → A q)
    {n : Int32} {N : Nat} (hn : ¬ n < 0) (hN : n.toNatClampNeg = N) (hbytes : N * 1 ≤ 536870912) (hcells : cells + 1 ≤ R.cells) (hslots : slots + N ≤ R.slots) (hdg : decode cc pc = .ok (.newarray .boolean, 2))
    (kk : ∀ (q : Nat) (H : Heap), va_P (xD G) vwCl (ws ++ [(q, .inl (xy G 1, N, .inl (fun _ => 0)))]) H → va_D A (ws ++ [(q, .inl (xy G 1, N, .inl (fun _ => 0)))]) → va_S A s.heap H locs → W p l e R s m args below meth c H locs (cells + 1) (slots + N) Q (F0 m (pc + 2) ls (.ref q :: rest))) : W p l e R s m args below meth c H locs cells slots Q (F0 m pc ls (.int n :: rest)) := by
  refine va_newa (atype := .boolean) (ty := .boolean) (a0 := (N, .inl (fun _ => 0))) hexec hb harr rfl hE.1 hP hD hS hA (fun _ => rfl) hn hN hbytes hcells hslots hdg (fun q cA H1 hK2 hP1 hD1 hS1 => ?_)
  have h1 := (hK2.2 4 (cA, .boolean) rfl).2
  have h2 := (hE.1.2 1 (xy G 1, .boolean) rfl).2
  have h3 : cA = xy G 1 := Option.some.inj (h1.symm.trans h2)
  subst h3
  exact kk q H1 hP1 hD1 hS1
theorem x_newq {cc : ByteArray} {own C : String} {index k : Nat} (hexec : p.tables.exec = Jvm.exec) (hb : c.code = cc) (hown : s.vm.findClass own = some m.cls) (hclink : (Cond.classLink own index C).before args s = true) (hover : va_AO C s) (hE : xE G A s) (hk : (xT G)[k]? = some (xy G k, .object C)) (hP : va_P (xD G) vwCl ws H) (hD : va_D A ws) (hS : va_S A s.heap H locs) (hA : ∀ q, s.heap.size ≤ q → A q)
    {n : Int32} {N : Nat} (hn : ¬ n < 0) (hN : n.toNatClampNeg = N) (hbytes : N * 4 ≤ 536870912) (hcells : cells + 1 ≤ R.cells) (hslots : slots + N ≤ R.slots) (hdg : decode cc pc = .ok (.anewarray index, 3))
    (kk : ∀ (q : Nat) (H : Heap), va_P (xD G) vwCl (ws ++ [(q, .inl (xy G k, N, .inr (.inr (.inr (.inr (fun _ => none))))))]) H → va_D A (ws ++ [(q, .inl (xy G k, N, .inr (.inr (.inr (.inr (fun _ => none))))))]) → va_S A s.heap H locs → W p l e R s m args below meth c H locs (cells + 1) (slots + N) Q (F0 m (pc + 3) ls (.ref q :: rest))) : W p l e R s m args below meth c H locs cells slots Q (F0 m pc ls (.int n :: rest)) := by
  refine va_newq hexec hb hown hclink hover hE.1 hP hD hS hA hn hN hbytes hcells hslots hdg (fun q cA H1 hK2 hP1 hD1 hS1 => ?_)
  obtain ⟨_, _, _, _, _, h1⟩ := (hK2.2 4 (cA, .object C) rfl).2
  obtain ⟨_, _, _, _, _, h2⟩ := (hE.1.2 k (xy G k, .object C) hk).2
  have h3 : cA = xy G k := Option.some.inj (h1.symm.trans h2)
  subst h3
  exact kk q H1 hP1 hD1 hS1
end XC
theorem x4_eq (a b c d : Nat) : va_up (va_up (va_up (va_up (fun _ => none) 0 (some a)) 1 (some b)) 2 (some c)) 3 (some d) = x4 a b c d := by
  funext k
  match k with
  | 0 => rfl
  | 1 => rfl
  | 2 => rfl
  | 3 => rfl
  | n + 4 => simp [va_up, x4]
theorem x2_up0 (a b v : Option Nat) : va_up (x2 a b) 0 v = x2 v b := by
  funext k
  match k with
  | 0 => rfl
  | 1 => rfl
  | n + 2 => simp [va_up, x2]
theorem x2_up1 (a b v : Option Nat) : va_up (x2 a b) 1 v = x2 a v := by
  funext k
  match k with
  | 0 => rfl
  | 1 => rfl
  | n + 2 => simp [va_up, x2]
