/-! ===== constructors: a world that grows ===== -/
abbrev gk_K : Type := Launch × va_G × ClassId × (ClassId × ClassId)
def gk_F (K : gk_K) (r : Nat → Nat) : gl_F := (K.1, K.2.1, K.2.2.1, K.2.2.2, r)
def gk_tys (K : gk_K) : List (ClassId × FieldType) := [(K.2.2.1, .int), (K.2.2.2.1, .object "GoalLifts$House"), (K.2.2.2.2, .long)]
/-- the two links to private constructors of nest mates -/
def gk_Nw (U : State) : Prop := va_Nw (.methodLinkNest RX3 17 yX1_init RX4) U ∧ va_Nw (.methodLinkNest RX3 24 yX0_init RX4) U
theorem gk_Nw.same {u U : State} (h : u.vm = U.vm) (hZ : gk_Nw u) : gk_Nw U := ⟨va_Nw.same rfl h hZ.1, va_Nw.same rfl h hZ.2⟩
theorem gk_Nw.warm {s U : State} (hW : s.WarmedH U.vm) (hZ : gk_Nw s) : gk_Nw U := ⟨va_Nw.warmM hW hZ.1, va_Nw.warmM hW hZ.2⟩
def gk_A (h0 sz : Nat) : Nat → Prop := fun q => q = h0 ∨ sz ≤ q
def gk_Q (K : gk_K) (h0 sz : Nat) (lay : List gl_Ce) (M : Nat → Int32) : Array Value → State → Outcome → State → Prop := fun _ st o t => o = .returned none ∧ (∃ r : Nat → Nat, r 0 = h0 ∧ (∀ j, 0 < j → j < lay.length → sz ≤ r j) ∧ gl_inj (gk_F K r) lay ∧ va_P K.2.1 vwCl (gl_w (gk_F K r) lay M) t.heap) ∧ va_F (gk_A h0 sz) st t
def gk_Pc (K : gk_K) (ci : Nat) (fs : List Value) (h0 sz : Nat) : Array Value → State → Prop := va_Pc [.ref h0] (fun U => U.heap.size = sz ∧ va_P K.2.1 vwCl [(h0, .inr (ci, fs))] U.heap ∧ va_K K.2.1 vwCl (gk_tys K) U ∧ va_AO "GoalLifts$House" U ∧ gk_Nw U)
/-- A CONSTRUCTOR'S CONTRACT: on a new object it makes the layout's other cells, and leaves memory M -/
def gk_Kt (K : gk_K) (y : MethodName) (ws : List Cond) (rm : Room) (ci : Nat) (fs : List Value) (lay : List gl_Ce) (M : Nat → Int32) (mc ms : Nat) : Prop := ∀ h0 sz, Met K.1 y ws rm (gk_Pc K ci fs h0 sz) (gk_Q K h0 sz lay M) mc ms (gk_A h0 sz)
abbrev gk_V : Type := gk_K × Nat × Program × Env × Room × State × MethodId × Array Value × List Frame × Method × Code × Nat
def gk_C (cc : ByteArray) (ws : List Cond) (own : String) (rm : Room) : gk_V → Prop
  | (K, h0, p, e, R, s, m, args, below, meth, c, nL) => p.tables.exec = Jvm.exec ∧ c.code = cc ∧ c.maxLocals = nL ∧ s.vm.findClass own = some m.cls ∧ (∀ w ∈ ws, w.before args s = true) ∧ va_K K.2.1 vwCl (gk_tys K) s ∧ va_AO "GoalLifts$House" s ∧ gk_Nw s ∧ meth.locks = false ∧ meth.sig.returnType = none ∧ R = rm ∧ meth.name = "<init>"
def gk_G (lay : List gl_Ce) (M : Nat → Int32) (mc ms : Nat) : gk_V → va_W → Nat → Nat → Nat → List (Option Value) → List Value → Prop
  | (K, h0, p, e, R, s, m, args, below, meth, c, nL), W0, cells, slots, pc, L, st => ∀ (H : Heap) (locs : List Loc) (ls : Array Slot), va_P K.2.1 vwCl W0 H → va_D (gk_A h0 s.heap.size) W0 → va_S (gk_A h0 s.heap.size) s.heap H locs → gl_L nL ls L → W p K.1 e R s m args below meth c H locs cells slots (MQ below (gk_Q K h0 s.heap.size lay M) args s mc ms (gk_A h0 s.heap.size)) (F0 m pc ls st)
set_option maxHeartbeats 1000000 in
theorem gk_met {K : gk_K} {y : MethodName} {ws ws' : List Cond} {cc : ByteArray} {maxL : Nat} {rm : Room} {ci : Nat} {fs : List Value} {lay : List gl_Ce} {M : Nat → Int32} {mc ms : Nat} (L0 : Nat → List (Option Value))
    (hy : plainFor y = true) (hw : ws = Cond.code y cc maxL none :: ws') (hn : y.name = "<init>") (hlen : 1 ≤ maxL) (hL0 : ∀ h0, some (.ref h0) :: List.replicate (maxL - 1) none = L0 h0)
    (body : ∀ (V : gk_V), V.1 = K → gk_C cc ws y.cls rm V → gk_G lay M mc ms V [(V.2.1, .inr (ci, fs))] 0 0 0 (L0 V.2.1) []) : gk_Kt K y ws rm ci fs lay M mc ms := by
  intro h0 sz
  refine gl_ofW (cc := cc) (maxL := maxL) (ret := none) hy hw ?_
  intro p e s m args below meth c s₁ B hml hv
  obtain ⟨rfl, hsz, hP, hK, hAO, hNw⟩ := hv
  subst hsz
  have hts := atoms_spec (ws := ws) B.pre
  have hown : s.vm.findClass y.cls = some m.cls := findClass_of_methodNamed B.named
  have hin : meth.name = "<init>" := ((name_of_methodNamed B.named B.method).1).trans hn
  have hav : ∀ v ∈ [Value.ref h0], v.category = 1 := by intro v hv; simp at hv; subst hv; rfl
  have hl := lv_entry [.ref h0] (n := maxL) (by rw [gl_sl_len _ hav]; exact hlen)
  rw [lg_entry_eq]
  generalize (lg_sl [Value.ref h0] ++ List.replicate (maxL - (lg_sl [Value.ref h0]).length) Slot.unset).toArray = ls at hl ⊢
  have hL : gl_L maxL ls (L0 h0) := by
    refine ⟨hl.1, hl.2.1, by rw [← hL0]; simp; omega, fun i v hi => ?_⟩
    rw [← hL0] at hi
    cases i with
    | zero =>
      simp only [List.getElem?_cons_zero, Option.some.injEq] at hi
      subst hi
      exact hl.2.2 (0, .ref h0) (by simp [lv_args])
    | succ i =>
      rw [List.getElem?_cons_succ] at hi
      have := List.eq_of_mem_replicate (List.mem_of_getElem? hi)
      cases this
  refine body (K, h0, p, e, rm, s, m, [Value.ref h0].toArray, below, meth, c, maxL) rfl ⟨B.exec, B.bytes, hml, hown, hts, hK, hAO, hNw, B.notSynchronized, B.returns, rfl, hin⟩ s.heap [] ls hP ⟨fun i j p q hi hj _ => ?_, fun k q hk => ?_⟩ va_S.rf hL
  · have h1 := (List.getElem?_eq_some_iff.mp hi).1
    have h2 := (List.getElem?_eq_some_iff.mp hj).1
    simp at h1 h2
    omega
  · have h1 := (List.getElem?_eq_some_iff.mp hk).1
    simp at h1
    subst h1
    simp at hk
    subst hk
    exact Or.inl rfl
section GKR
variable {cc : ByteArray} {ws : List Cond} {own : String} {rm : Room} {lay : List gl_Ce} {M : Nat → Int32} {mc ms : Nat} {V : gk_V} {W0 W1 : va_W} {cells slots pc : Nat} {L L1 : List (Option Value)} {st rest : List Value}
theorem gk_ws (hW : W0 = W1) (h : gk_G lay M mc ms V W1 cells slots pc L st) : gk_G lay M mc ms V W0 cells slots pc L st := by rw [hW]; exact h
theorem gk_on (h : gk_G lay M mc ms V W1 cells slots pc L1 st) (hL : gl_le L1 L) (hM : W0 = W1) : gk_G lay M mc ms V W0 cells slots pc L st := by
  obtain ⟨K, h0, p, e, R, s, m, args, below, meth, c, nL⟩ := V
  subst hM
  intro H locs ls hP hD hS hl
  exact h H locs ls hP hD hS ⟨hl.1, hl.2.1, (gl_le_len hL).trans hl.2.2.1, fun i v hi => hl.2.2.2 i v (gl_le_at hL i v hi)⟩
theorem gk_loop {n : Nat} (Lk : Nat → List (Option Value)) (Wk : Nat → va_W) (hL : gl_le (Lk 0) L) (hM : W0 = Wk 0) (exit : gk_G lay M mc ms V (Wk n) cells slots pc (Lk n) st)
    (step : ∀ k, k < n → gk_G lay M mc ms V (Wk (k + 1)) cells slots pc (Lk (k + 1)) st → gk_G lay M mc ms V (Wk k) cells slots pc (Lk k) st) : gk_G lay M mc ms V W0 cells slots pc L st := by
  have h : ∀ j k, k + j = n → gk_G lay M mc ms V (Wk k) cells slots pc (Lk k) st := by
    intro j
    induction j with
    | zero =>
      intro k hk
      rw [Nat.add_zero] at hk
      subst hk
      exact exit
    | succ j ih =>
      intro k hk
      exact step k (by omega) (ih (k + 1) (by omega))
  exact gk_on (h n 0 (by omega)) hL hM
theorem gk_objInit {idx : Nat} {a : Nat} (C : gk_C cc ws own rm V) (d : decode cc pc = .ok (.invokespecial idx, 3)) (h1 : Cond.methodLink own idx objectInit ∈ ws) (h2 : Cond.instanceMethod objectInit ∈ ws) (h3 : Cond.code objectInit ⟨#[0xb1]⟩ 1 none ∈ ws)
    (hrm : 1 ≤ rm.frames ∧ (st.map fun v => v.category).sum + 12 ≤ rm.locals) (k : gk_G lay M mc ms V W0 cells slots (pc + 3) L st) : gk_G lay M mc ms V W0 cells slots pc L (.ref a :: st) := by
  obtain ⟨K, h0, p, e, R, s, m, args, below, meth, c, nL⟩ := V
  obtain ⟨hx, hb, hml, hown, hts, hK, hAO, hNw, hlk, hr, rfl, hin⟩ := C
  intro H locs ls hP hD hS hl
  refine W.objInit hx hb hown (hts _ h1) (hts _ h2) (hts _ h3) rfl (by rw [hml]; exact hl.1) rfl d hrm.1 ?_ (k H locs ls hP hD hS hl)
  show 2 * 0 + _ + 12 ≤ _
  omega
theorem gk_newa {n : Nat} (C : gk_C cc ws own rm V) (d : decode cc pc = .ok (.newarray .int, 2)) (h1 : Cond.arrayClass .int ∈ ws) (hn : n < 100000) (hc : cells + 1 ≤ rm.cells) (hs : slots + n ≤ rm.slots)
    (k : ∀ q, gk_G lay M mc ms V (W0 ++ [(q, .inl (V.1.2.2.1, n, .inl (fun _ => 0)))]) (cells + 1) (slots + n) (pc + 2) L (.ref q :: st)) : gk_G lay M mc ms V W0 cells slots pc L (.int (nI n) :: st) := by
  obtain ⟨K, h0, p, e, R, s, m, args, below, meth, c, nL⟩ := V
  obtain ⟨hx, hb, hml, hown, hts, hK, hAO, hNw, hlk, hr, rfl, hin⟩ := C
  intro H locs ls hP hD hS hl
  refine va_newa (atype := .int) (ty := .int) (N' := n) (a0 := (n, .inl (fun _ => 0))) hx hb (hts _ h1) rfl hK hP hD hS (fun q hq => Or.inr hq) (fun cA => rfl) (nI_pos (by omega)) (nI_clamp (by omega)) (by simp only [componentBytes]; omega) hc hs d (fun q cA H1 hK1 hP1 hD1 hS1 => ?_)
  have e1 := (hK1.2 3 (cA, .int) rfl).2
  have e0 := (hK.2 0 (K.2.2.1, .int) rfl).2
  have e : cA = K.2.2.1 := Option.some.inj (e1.symm.trans e0)
  subst e
  exact k q H1 locs ls hP1 hD1 hS1 hl
theorem gk_new {index ci N : Nat} {Cl : String} {T : u_T} {fs : List Value} (ty : Nat → FieldType) (C : gk_C cc ws own rm V) (d : decode cc pc = .ok (.new index, 3)) (hci : vwCl[ci]? = some (Cl, T, N)) (hin0 : ∀ w ∈ u_ws Cl T N, w ∈ ws) (hty : ∀ k, k < N → parseFieldDescriptor (T k).2.2.1 = some (ty k)) (h1 : Cond.classLink own index Cl ∈ ws) (h2 : Cond.instantiable Cl N ∈ ws) (h3 : Cond.initialized Cl ∈ ws)
    (hfs : ∀ j, j < N → defaultValue (ty j) = vp_V fs j) (hc : cells + 1 ≤ rm.cells) (hs : slots + N ≤ rm.slots)
    (k : ∀ q, gk_G lay M mc ms V (W0 ++ [(q, .inr (ci, fs))]) (cells + 1) (slots + N) (pc + 3) L (.ref q :: st)) : gk_G lay M mc ms V W0 cells slots pc L st := by
  obtain ⟨K, h0, p, e, R, s, m, args, below, meth, c, nL⟩ := V
  obtain ⟨hx, hb, hml, hown, hts, hK, hAO, hNw, hlk, hr, rfl, hin⟩ := C
  intro H locs ls hP hD hS hl
  exact va_new (ci := ci) (fs := fs) hx hb hts hin0 ty hty hown (hts _ h1) (hts _ h2) (hts _ h3) hK hP hD hS (fun q hq => Or.inr hq) hci hfs hc hs d (fun q H1 hP1 hD1 hS1 => k q H1 locs ls hP1 hD1 hS1 hl)
theorem gk_anewa {n index : Nat} (C : gk_C cc ws own rm V) (d : decode cc pc = .ok (.anewarray index, 3)) (h1 : Cond.classLink own index "GoalLifts$House" ∈ ws) (hn : n < 100000) (hc : cells + 1 ≤ rm.cells) (hs : slots + n ≤ rm.slots)
    (k : ∀ q, gk_G lay M mc ms V (W0 ++ [(q, .inl (V.1.2.2.2.1, n, .inr (.inr (.inr (.inr (fun _ => none))))))]) (cells + 1) (slots + n) (pc + 3) L (.ref q :: st)) : gk_G lay M mc ms V W0 cells slots pc L (.int (nI n) :: st) := by
  obtain ⟨K, h0, p, e, R, s, m, args, below, meth, c, nL⟩ := V
  obtain ⟨hx, hb, hml, hown, hts, hK, hAO, hNw, hlk, hr, rfl, hin⟩ := C
  intro H locs ls hP hD hS hl
  refine va_newq (N' := n) hx hb hown (hts _ h1) hAO hK hP hD hS (fun q hq => Or.inr hq) (nI_pos (by omega)) (nI_clamp (by omega)) (by omega) hc hs d (fun q cA H1 hK1 hP1 hD1 hS1 => ?_)
  obtain ⟨kA, comp, f1, f2, f3, e1⟩ := (hK1.2 3 (cA, .object "GoalLifts$House") rfl).2
  obtain ⟨kA', comp', f1', f2', f3', e0⟩ := (hK.2 1 (K.2.2.2.1, .object "GoalLifts$House") rfl).2
  have e : cA = K.2.2.2.1 := Option.some.inj (e1.symm.trans e0)
  subst e
  exact k q H1 locs ls hP1 hD1 hS1 hl
def gk_ff (ws : List Cond) (own : String) (index ci k : Nat) (ty : FieldType) : Prop := ∃ (Cl : String) (T : u_T) (N : Nat) (ref : String) (ty0 : Nat → FieldType), vwCl[ci]? = some (Cl, T, N) ∧ k < N ∧ (∀ w ∈ u_ws Cl T N, w ∈ ws) ∧ Cond.fieldLink own index ref (T k).2.1 (T k).2.2.1 ∈ ws ∧ ref = (T k).1 ∧ (∀ k, k < N → parseFieldDescriptor (T k).2.2.1 = some (ty0 k)) ∧ (∀ a, a < N → ∀ b, b < N → a ≠ b → (T a).2.1 ≠ (T b).2.1) ∧ (T k).2.2.2 = true ∧ parseFieldDescriptor (T k).2.2.1 = some ty ∧ (T k).1 = own
theorem gk_putF {index q0 ci k a x : Nat} {fs : List Value} {ty : FieldType} (C : gk_C cc ws own rm V) (d : decode cc pc = .ok (.putfield index, 3)) (f : gk_ff ws own index ci k ty) (hq : W0[q0]? = some (a, .inr (ci, fs))) (hl0 : k < fs.length) (hn : narrow ty (.ref x) = .ref x) (hfit : fits ty (.ref x) = true)
    (h : gk_G lay M mc ms V (W0.set q0 (a, .inr (ci, fs.set k (.ref x)))) cells slots (pc + 3) L st) : gk_G lay M mc ms V W0 cells slots pc L (.ref x :: .ref a :: st) := by
  obtain ⟨K, h0, p, e, R, s, m, args, below, meth, c, nL⟩ := V
  obtain ⟨hx, hb, hml, hown, hts, hK, hAO, hNw, hlk, hr, rfl, hin⟩ := C
  intro H locs ls hP hD hS hl
  obtain ⟨Cl, T, N, ref, ty0, f1, f2, f3, f4, f5, f6, f7, f8, f9, f10⟩ := f
  subst f5
  exact va_putF (D := K.2.1) (ci := ci) (v := .ref x) (ty := ty) (C := Cl) (T := T) (N := N) hx hb hts f3 ty0 f6 f7 hown hK hP hD hS q0 hq f1 k f2 (hts _ f4) (fun _ h9 => h9) f8 hin f10 f9 hn hfit hl0 d (fun H1 locs1 hP1 hD1 hS1 => h H1 locs1 ls hP1 hD1 hS1 hl)
theorem gk_get {index q0 ci k a : Nat} {fs : List Value} {v : Value} (C : gk_C cc ws own rm V) (d : decode cc pc = .ok (.getfield index, 3)) (f : gl_fl ws own index ci k) (hq : W0[q0]? = some (a, .inr (ci, fs))) (hk : fs[k]? = some v)
    (h : gk_G lay M mc ms V W0 cells slots (pc + 3) L (v :: st)) : gk_G lay M mc ms V W0 cells slots pc L (.ref a :: st) := by
  obtain ⟨K, h0, p, e, R, s, m, args, below, meth, c, nL⟩ := V
  obtain ⟨hx, hb, hml, hown, hts, hK, hAO, hNw, hlk, hr, rfl, hin⟩ := C
  intro H locs ls hP hD hS hl
  obtain ⟨Cl, T, N, ref, f1, f2, f3, f4, f5⟩ := f
  subst f5
  exact va_get (D := K.2.1) (ci := ci) (v := v) (C := Cl) (T := T) (N := N) hx hb hts f3 hown hK hP q0 hq f1 k f2 (hts _ f4) (fun _ h9 => h9) hk d (h H locs ls hP hD hS hl)
theorem gk_iast {q0 a n : Nat} {f : Nat → Int32} {i x : Int32} (k : Nat) (C : gk_C cc ws own rm V) (d : decode cc pc = .ok (.iastore, 1)) (hq : W0[q0]? = some (a, .inl (V.1.2.2.1, n, .inl f))) (hi : i = nI k) (hk : k < n) (hn : n < 100000)
    (h : gk_G lay M mc ms V (W0.set q0 (a, .inl (V.1.2.2.1, n, .inl (upd f k x)))) cells slots (pc + 1) L st) : gk_G lay M mc ms V W0 cells slots pc L (.int x :: .int i :: .ref a :: st) := by
  obtain ⟨K, h0, p, e, R, s, m, args, below, meth, c, nL⟩ := V
  obtain ⟨hx, hb, hml, hown, hts, hK, hAO, hNw, hlk, hr, rfl, hin⟩ := C
  intro H locs ls hP hD hS hl
  subst hi
  have h1 := nI_clamp (n := k) (by omega)
  refine va_iast (D := K.2.1) hx hb hK hP hD hS q0 0 hq rfl (vp_in_nI hk (by omega)) d (fun H1 locs1 hP1 hD1 hS1 => ?_)
  rw [h1] at hP1 hD1
  exact h H1 locs1 ls hP1 hD1 hS1 hl
theorem gk_aast {q0 qk a n v : Nat} {vs : List Value} {f : Nat → Option Nat} {i : Int32} (k : Nat) (C : gk_C cc ws own rm V) (d : decode cc pc = .ok (.aastore, 1)) (hq : W0[q0]? = some (a, .inl (V.1.2.2.2.1, n, .inr (.inr (.inr (.inr f)))))) (hv : W0[qk]? = some (v, .inr (3, vs))) (hi : i = nI k) (hk : k < n) (hn : n < 100000)
    (h : gk_G lay M mc ms V (W0.set q0 (a, .inl (V.1.2.2.2.1, n, .inr (.inr (.inr (.inr (va_up f k (some v)))))))) cells slots (pc + 1) L st) : gk_G lay M mc ms V W0 cells slots pc L (.ref v :: .int i :: .ref a :: st) := by
  obtain ⟨K, h0, p, e, R, s, m, args, below, meth, c, nL⟩ := V
  obtain ⟨hx, hb, hml, hown, hts, hK, hAO, hNw, hlk, hr, rfl, hin⟩ := C
  intro H locs ls hP hD hS hl
  subst hi
  have h1 := nI_clamp (n := k) (by omega)
  refine va_astq (D := K.2.1) (r := (RX3, TX3, 4)) hx hb hK hP hD hS q0 1 qk 3 hq rfl hv rfl (vp_in_nI hk (by omega)) d (fun H1 locs1 hP1 hD1 hS1 => ?_)
  rw [h1] at hP1 hD1
  exact h H1 locs1 ls hP1 hD1 hS1 hl
/-- a constructor called: its object's cell goes, its whole layout comes -/
theorem gk_callI {index q0 ci maxL a mc1 ms1 : Nat} {fs : List Value} {y : MethodName} {wsc wsc' : List Cond} {bytes : ByteArray} {rmc : Room} {layc : List gl_Ce} {Mc : Nat → Int32} (wr : va_W) (isR : List Nat)
    (ct : gk_Kt V.1 y wsc rmc ci fs layc Mc mc1 ms1) (C : gk_C cc ws own rm V) (d : decode cc pc = .ok (.invokespecial index, 3)) (g : GoodIn ws wsc) (hw : wsc = Cond.code y bytes maxL none :: wsc') (h1 : Cond.initialized y.cls ∈ ws) (h2 : Cond.methodLink own index y ∈ ws) (h3 : Cond.instanceMethod y ∈ ws) (hy : y.name = "<init>")
    (hd : y.cls ≠ "java/lang/invoke/MethodHandle" ∧ y.cls ≠ "java/lang/invoke/VarHandle" ∧ (parseMethodDescriptor y.desc).map (fun d => d.parameters.length) = some 0) (hrm : rmc.cells = mc1 ∧ rmc.slots = ms1 ∧ rmc.frames + 1 ≤ rm.frames ∧ 8 + (maxL + 11) + rmc.locals ≤ rm.locals)
    (hf : cells + mc1 ≤ rm.cells ∧ slots + ms1 ≤ rm.slots) (hrest : (st.map fun v => v.category).sum ≤ 8)
    (hq : W0[q0]? = some (a, .inr (ci, fs))) (hR : isR.map (fun i => W0[i]?) = wr.map some) (hnd : va_nd isR = true) (hdis : ∀ i ∈ isR, i ∉ [q0])
    (k : ∀ r : Nat → Nat, r 0 = a → gk_G lay M mc ms V (wr ++ gl_w (gk_F V.1 r) layc Mc) (cells + mc1) (slots + ms1) (pc + 3) L st) : gk_G lay M mc ms V W0 cells slots pc L (.ref a :: st) := by
  obtain ⟨K, h0, p, e, R, s, m, args, below, meth, c, nL⟩ := V
  obtain ⟨hx, hb, hml, hown, hts, hK, hAO, hNw, hlk, hr, rfl, hin⟩ := C
  intro H locs ls hP hD hS hl
  have hPc : va_P K.2.1 vwCl [(a, .inr (ci, fs))] H := fun j q hj => by
    have h := (List.getElem?_eq_some_iff.mp hj).1
    simp at h
    subst h
    simp at hj
    subst hj
    exact hP q0 _ hq
  have hcw := cwI (R := R) 0 hts g hw hrm.1 hrm.2.1 (hts _ h1) (hts _ h2) (hts _ h3) hy hd hrm.2.2
  have hlt : a < H.size := (hP q0 _ hq).lt
  have hsub : ∀ q, gk_A a H.size q → gk_A h0 s.heap.size q := by
    intro q hq'
    rcases hq' with h | h
    · rw [h]; exact hD.2 q0 _ hq
    · exact Or.inr (Nat.le_trans hS.1 h)
  have hrun : va_Run p K.1 e R s m args below meth c H locs cells slots mc1 ms1 (F0 m pc ls (.ref a :: st)) st (gk_Q K a H.size layc Mc (Value.ref a :: ([] : List Value)).toArray) (gk_A a H.size) := va_runI (g := F0 m pc ls (.ref a :: st)) (As := []) (rest := st) ⟨hx, hb, hml, hown, hts⟩ (ct a H.size) hcw ⟨fun a' U g mk q => ⟨q.1, q.2.1, q.2.2.1, va_K.moved (u := U) (U := U.calling g mk a') (Vm.Alike.refl U.vm) q.2.2.2.1, va_AO.moved (u := U) (U := U.calling g mk a') (Vm.Alike.refl U.vm) q.2.2.2.2.1, gk_Nw.same (u := U) (U := U.calling g mk a') rfl q.2.2.2.2.2⟩, fun U hU hW => ⟨rfl, by rw [hU], by rw [hU]; exact hPc, va_K.moved hW.alike hK, va_AO.moved hW.alike hAO, gk_Nw.warm hW hNw⟩⟩ rfl rfl hl.1 rfl (lv_room hrest) d hf
  intro T hT X
  obtain ⟨v, st₀, t, T', L2, e0, X', hL, e1, e2, ⟨hv, ⟨r, r1, r2, r3, r4⟩, hz, hk⟩, stp⟩ := hrun T hT X
  cases hv
  rw [e0] at hz hk
  have hP1 : va_P K.2.1 vwCl (gl_w (gk_F K r) layc Mc) T'.heap := by rw [e1]; exact r4
  have hAa : ∀ q, va_A [(a, (Sum.inr (ci, fs) : va_E))] H.size q ↔ gk_A a H.size q := by
    intro q
    constructor
    · rintro (⟨j, e', hj⟩ | h)
      · have h := (List.getElem?_eq_some_iff.mp hj).1
        simp at h
        subst h
        simp at hj
        exact Or.inl hj.1.symm
      · exact Or.inr h
    · rintro (h | h)
      · exact Or.inl ⟨0, .inr (ci, fs), by rw [h]; rfl⟩
      · exact Or.inr h
  have hD1 : va_D (va_A [(a, (Sum.inr (ci, fs) : va_E))] H.size) (gl_w (gk_F K r) layc Mc) := by
    refine ⟨(gl_w_D r3).1, fun j q hj => ?_⟩
    obtain ⟨cc', h1', rfl⟩ := gl_w_inv hj
    refine (hAa _).mpr ?_
    by_cases hj0 : j = 0
    · subst hj0; exact Or.inl r1
    · exact Or.inr (r2 j (by omega) (List.getElem?_eq_some_iff.mp h1').1)
  obtain ⟨hP2, hD2⟩ := va_join (wr := wr) (w1 := gl_w (gk_F K r) layc Mc) (wc := [(a, .inr (ci, fs))]) hP hD [q0] isR (by simp [hq]) hR hnd hdis (fun q h1' h2' => by rw [e1]; exact hk q h1' (fun h => h2' ((hAa q).mpr h))) (fun q h => hsub q ((hAa q).mp h)) hP1 hD1
  obtain ⟨t2, a1, b1⟩ := k r r1 T'.heap (locs ++ L2) ls hP2 hD2 ⟨Nat.le_trans hS.1 (by rw [e1]; exact hz), fun q h1' h2' => by rw [e1, hk q (Nat.lt_of_lt_of_le h1' hS.1) (fun h => h2' (hsub q h))]; exact hS.2.1 q h1' h2', fun q hq' => by
      rcases List.mem_append.mp hq' with h | h
      · exact hS.2.2 q h
      · exact hsub _ (hL q h)⟩ hl T' rfl X'
  exact ⟨t2, stp t2 a1, b1⟩
/-- a private constructor of a nest mate called: its object's cell goes, its whole layout comes -/
theorem gk_callIN {index q0 ci maxL a mc1 ms1 : Nat} {fs : List Value} {y : MethodName} {wsc wsc' : List Cond} {bytes : ByteArray} {rmc : Room} {layc : List gl_Ce} {Mc : Nat → Int32} (wr : va_W) (isR : List Nat)
    (ct : gk_Kt V.1 y wsc rmc ci fs layc Mc mc1 ms1) (C : gk_C cc ws own rm V) (d : decode cc pc = .ok (.invokespecial index, 3)) (g : GoodIn ws wsc) (hw : wsc = Cond.code y bytes maxL none :: wsc') (h1 : Cond.initialized y.cls ∈ ws) (h2 : ∀ U : State, gk_Nw U → va_Nw (.methodLinkNest own index y RX4) U) (h3 : Cond.instanceMethod y ∈ ws) (hy : y.name = "<init>")
    (hd : y.cls ≠ "java/lang/invoke/MethodHandle" ∧ y.cls ≠ "java/lang/invoke/VarHandle" ∧ (parseMethodDescriptor y.desc).map (fun d => d.parameters.length) = some 0) (hrm : rmc.cells = mc1 ∧ rmc.slots = ms1 ∧ rmc.frames + 1 ≤ rm.frames ∧ 8 + (maxL + 11) + rmc.locals ≤ rm.locals)
    (hf : cells + mc1 ≤ rm.cells ∧ slots + ms1 ≤ rm.slots) (hrest : (st.map fun v => v.category).sum ≤ 8)
    (hq : W0[q0]? = some (a, .inr (ci, fs))) (hR : isR.map (fun i => W0[i]?) = wr.map some) (hnd : va_nd isR = true) (hdis : ∀ i ∈ isR, i ∉ [q0])
    (k : ∀ r : Nat → Nat, r 0 = a → gk_G lay M mc ms V (wr ++ gl_w (gk_F V.1 r) layc Mc) (cells + mc1) (slots + ms1) (pc + 3) L st) : gk_G lay M mc ms V W0 cells slots pc L (.ref a :: st) := by
  obtain ⟨K, h0, p, e, R, s, m, args, below, meth, c, nL⟩ := V
  obtain ⟨hx, hb, hml, hown, hts, hK, hAO, hNw, hlk, hr, rfl, hin⟩ := C
  intro H locs ls hP hD hS hl
  have hPc : va_P K.2.1 vwCl [(a, .inr (ci, fs))] H := fun j q hj => by
    have h := (List.getElem?_eq_some_iff.mp hj).1
    simp at h
    subst h
    simp at hj
    subst hj
    exact hP q0 _ hq
  have hcw := va_cnB (R := R) 0 hts g hw hrm.1 hrm.2.1 (h2 _ hNw) (hts _ h1) hd hrm.2.2
  have hlt : a < H.size := (hP q0 _ hq).lt
  have hsub : ∀ q, gk_A a H.size q → gk_A h0 s.heap.size q := by
    intro q hq'
    rcases hq' with h | h
    · rw [h]; exact hD.2 q0 _ hq
    · exact Or.inr (Nat.le_trans hS.1 h)
  have hrun : va_Run p K.1 e R s m args below meth c H locs cells slots mc1 ms1 (F0 m pc ls (.ref a :: st)) st (gk_Q K a H.size layc Mc (Value.ref a :: ([] : List Value)).toArray) (gk_A a H.size) := va_runIN (g := F0 m pc ls (.ref a :: st)) (As := []) (rest := st) ⟨hx, hb, hml, hown, hts⟩ (ct a H.size) ⟨hcw, hy, hts _ h3⟩ ⟨fun a' U g mk q => ⟨q.1, q.2.1, q.2.2.1, va_K.moved (u := U) (U := U.calling g mk a') (Vm.Alike.refl U.vm) q.2.2.2.1, va_AO.moved (u := U) (U := U.calling g mk a') (Vm.Alike.refl U.vm) q.2.2.2.2.1, gk_Nw.same (u := U) (U := U.calling g mk a') rfl q.2.2.2.2.2⟩, fun U hU hW => ⟨rfl, by rw [hU], by rw [hU]; exact hPc, va_K.moved hW.alike hK, va_AO.moved hW.alike hAO, gk_Nw.warm hW hNw⟩⟩ rfl rfl hl.1 rfl (lv_room hrest) d hf
  intro T hT X
  obtain ⟨v, st₀, t, T', L2, e0, X', hL, e1, e2, ⟨hv, ⟨r, r1, r2, r3, r4⟩, hz, hk⟩, stp⟩ := hrun T hT X
  cases hv
  rw [e0] at hz hk
  have hP1 : va_P K.2.1 vwCl (gl_w (gk_F K r) layc Mc) T'.heap := by rw [e1]; exact r4
  have hAa : ∀ q, va_A [(a, (Sum.inr (ci, fs) : va_E))] H.size q ↔ gk_A a H.size q := by
    intro q
    constructor
    · rintro (⟨j, e', hj⟩ | h)
      · have h := (List.getElem?_eq_some_iff.mp hj).1
        simp at h
        subst h
        simp at hj
        exact Or.inl hj.1.symm
      · exact Or.inr h
    · rintro (h | h)
      · exact Or.inl ⟨0, .inr (ci, fs), by rw [h]; rfl⟩
      · exact Or.inr h
  have hD1 : va_D (va_A [(a, (Sum.inr (ci, fs) : va_E))] H.size) (gl_w (gk_F K r) layc Mc) := by
    refine ⟨(gl_w_D r3).1, fun j q hj => ?_⟩
    obtain ⟨cc', h1', rfl⟩ := gl_w_inv hj
    refine (hAa _).mpr ?_
    by_cases hj0 : j = 0
    · subst hj0; exact Or.inl r1
    · exact Or.inr (r2 j (by omega) (List.getElem?_eq_some_iff.mp h1').1)
  obtain ⟨hP2, hD2⟩ := va_join (wr := wr) (w1 := gl_w (gk_F K r) layc Mc) (wc := [(a, .inr (ci, fs))]) hP hD [q0] isR (by simp [hq]) hR hnd hdis (fun q h1' h2' => by rw [e1]; exact hk q h1' (fun h => h2' ((hAa q).mpr h))) (fun q h => hsub q ((hAa q).mp h)) hP1 hD1
  obtain ⟨t2, a1, b1⟩ := k r r1 T'.heap (locs ++ L2) ls hP2 hD2 ⟨Nat.le_trans hS.1 (by rw [e1]; exact hz), fun q h1' h2' => by rw [e1, hk q (Nat.lt_of_lt_of_le h1' hS.1) (fun h => h2' (hsub q h))]; exact hS.2.1 q h1' h2', fun q hq' => by
      rcases List.mem_append.mp hq' with h | h
      · exact hS.2.2 q h
      · exact hsub _ (hL q h)⟩ hl T' rfl X'
  exact ⟨t2, stp t2 a1, b1⟩
theorem gk_vret (C : gk_C cc ws own rm V) (d : decode cc pc = .ok (.return_, 1)) (r : Nat → Nat) (hr0 : r 0 = V.2.1) (hW : W0 = gl_w (gk_F V.1 r) lay M) (hc : cells = mc) (hs : slots = ms) : gk_G lay M mc ms V W0 cells slots pc L [] := by
  obtain ⟨K, h0, p, e, R, s, m, args, below, meth, c, nL⟩ := V
  obtain ⟨hx, hb, hml, hown, hts, hK, hAO, hNw, hlk, hrr, rfl, hin⟩ := C
  subst hc
  subst hs
  intro H locs ls hP hD hS hl
  have hI : gl_inj (gk_F K r) lay := by
    intro i j hi hj hij
    rw [hW] at hD
    exact hD.1 i j _ _ (gl_w_at (List.getElem?_eq_getElem hi)) (gl_w_at (List.getElem?_eq_getElem hj)) hij
  refine W.vret hx hb hrr (fun t ht hW' => ⟨rfl, ⟨r, hr0, fun j hj0 hj => ?_, hI, by rw [ht, ← hW]; exact hP⟩, hS.F ht⟩) hS.2.2 d hlk
  rw [hW] at hD
  rcases hD.2 j _ (gl_w_at (List.getElem?_eq_getElem hj)) with h | h
  · exfalso
    have h' : r j = r 0 := h.trans hr0.symm
    have := hI j 0 hj (by omega) h'
    omega
  · exact h

theorem gk_iconst {n : Int} (v : Int32) (C : gk_C cc ws own rm V) (d : decode cc pc = .ok (.iconst n, 1)) (hv : Int32.ofInt n = v) (k : gk_G lay M mc ms V W0 cells slots (pc + 1) L (.int v :: st)) : gk_G lay M mc ms V W0 cells slots pc L st := by
  obtain ⟨K, h0, p, e, R, s, m, args, below, meth, c, nL⟩ := V
  obtain ⟨hx, hb, hml, hown, hts, hK, hAO, hNw, hlk, hr, rfl, hin⟩ := C
  intro H locs ls hP hD hS hl
  exact lv_iconst hx hb d hv (k H locs ls hP hD hS hl)
theorem gk_bipush {n : Int} (v : Int32) (C : gk_C cc ws own rm V) (d : decode cc pc = .ok (.bipush n, 2)) (hv : (Int8.ofInt n).toInt32 = v) (k : gk_G lay M mc ms V W0 cells slots (pc + 2) L (.int v :: st)) : gk_G lay M mc ms V W0 cells slots pc L st := by
  obtain ⟨K, h0, p, e, R, s, m, args, below, meth, c, nL⟩ := V
  obtain ⟨hx, hb, hml, hown, hts, hK, hAO, hNw, hlk, hr, rfl, hin⟩ := C
  intro H locs ls hP hD hS hl
  exact lv_bipush hx hb d hv (k H locs ls hP hD hS hl)
theorem gk_sipush {n : Int} (v : Int32) (C : gk_C cc ws own rm V) (d : decode cc pc = .ok (.sipush n, 3)) (hv : (Int16.ofInt n).toInt32 = v) (k : gk_G lay M mc ms V W0 cells slots (pc + 3) L (.int v :: st)) : gk_G lay M mc ms V W0 cells slots pc L st := by
  obtain ⟨K, h0, p, e, R, s, m, args, below, meth, c, nL⟩ := V
  obtain ⟨hx, hb, hml, hown, hts, hK, hAO, hNw, hlk, hr, rfl, hin⟩ := C
  intro H locs ls hP hD hS hl
  exact lv_sipush hx hb d hv (k H locs ls hP hD hS hl)
theorem gk_iaddN {a b : Nat} (C : gk_C cc ws own rm V) (d : decode cc pc = .ok (.iadd, 1)) (k : gk_G lay M mc ms V W0 cells slots (pc + 1) L (.int (nI (a + b)) :: st)) : gk_G lay M mc ms V W0 cells slots pc L (.int (nI b) :: .int (nI a) :: st) := by
  obtain ⟨K, h0, p, e, R, s, m, args, below, meth, c, nL⟩ := V
  obtain ⟨hx, hb, hml, hown, hts, hK, hAO, hNw, hlk, hr, rfl, hin⟩ := C
  intro H locs ls hP hD hS hl
  exact lv_iadd hx hb d (by rw [nI_add]; exact k H locs ls hP hD hS hl)
theorem gk_dupR {q : Nat} (C : gk_C cc ws own rm V) (d : decode cc pc = .ok (.dup, 1)) (k : gk_G lay M mc ms V W0 cells slots (pc + 1) L (.ref q :: .ref q :: st)) : gk_G lay M mc ms V W0 cells slots pc L (.ref q :: st) := by
  obtain ⟨K, h0, p, e, R, s, m, args, below, meth, c, nL⟩ := V
  obtain ⟨hx, hb, hml, hown, hts, hK, hAO, hNw, hlk, hr, rfl, hin⟩ := C
  intro H locs ls hP hD hS hl
  exact lv_dup hx hb d rfl (k H locs ls hP hD hS hl)
theorem gk_goto {off : Int} (tgt : Nat) (C : gk_C cc ws own rm V) (d : decode cc pc = .ok (.goto off, 3)) (ht : (pc : Int) + off = (tgt : Int)) (k : gk_G lay M mc ms V W0 cells slots tgt L st) : gk_G lay M mc ms V W0 cells slots pc L st := by
  obtain ⟨K, h0, p, e, R, s, m, args, below, meth, c, nL⟩ := V
  obtain ⟨hx, hb, hml, hown, hts, hK, hAO, hNw, hlk, hr, rfl, hin⟩ := C
  intro H locs ls hP hD hS hl
  exact lv_goto hx hb d ht (k H locs ls hP hD hS hl)
theorem gk_icmp_ge {x y : Int32} {off : Int} (tgt : Nat) (C : gk_C cc ws own rm V) (d : decode cc pc = .ok (.if_icmp .ge off, 3)) (ht : (pc : Int) + off = (tgt : Int)) (kt : y ≤ x → gk_G lay M mc ms V W0 cells slots tgt L st) (kf : ¬ y ≤ x → gk_G lay M mc ms V W0 cells slots (pc + 3) L st) : gk_G lay M mc ms V W0 cells slots pc L (.int y :: .int x :: st) := by
  obtain ⟨K, h0, p, e, R, s, m, args, below, meth, c, nL⟩ := V
  obtain ⟨hx, hb, hml, hown, hts, hK, hAO, hNw, hlk, hr, rfl, hin⟩ := C
  intro H locs ls hP hD hS hl
  exact lv_icmp_ge hx hb d ht (fun q => kt q H locs ls hP hD hS hl) (fun q => kf q H locs ls hP hD hS hl)
theorem gk_iload_0 {T : List (Option Value)} {x : Int32} (C : gk_C cc ws own rm V) (d : decode cc pc = .ok (.iload_n 0, 1)) (k : gk_G lay M mc ms V W0 cells slots (pc + 1) (some (.int x) :: T) (.int x :: st)) : gk_G lay M mc ms V W0 cells slots pc (some (.int x) :: T) st := by
  obtain ⟨K, h0, p, e, R, s, m, args, below, meth, c, nL⟩ := V
  obtain ⟨hx, hb, hml, hown, hts, hK, hAO, hNw, hlk, hr, rfl, hin⟩ := C
  intro H locs ls hP hD hS hl
  exact lv_iload_n hx hb d rfl (gl_L_at hl (i := 0) rfl) (k H locs ls hP hD hS hl)
theorem gk_istore_0 {o : Option Value} {T : List (Option Value)} {x : Int32} (C : gk_C cc ws own rm V) (d : decode cc pc = .ok (.istore_n 0, 1)) (k : gk_G lay M mc ms V W0 cells slots (pc + 1) (some (.int x) :: T) st) (hc : gl_pc (o :: T) 0 = true := by with_unfolding_all rfl) : gk_G lay M mc ms V W0 cells slots pc (o :: T) (.int x :: st) := by
  obtain ⟨K, h0, p, e, R, s, m, args, below, meth, c, nL⟩ := V
  obtain ⟨hx, hb, hml, hown, hts, hK, hAO, hNw, hlk, hr, rfl, hin⟩ := C
  intro H locs ls hP hD hS hl
  exact lv_istore_n hx hb d rfl (gl_L_has hl) (show 0 < nL by have := hl.2.2.1; simp at this; omega) rfl (fun ls' h' => k H locs ls' hP hD hS (gl_L_set (i := 0) hl rfl h' hc))
theorem gk_aload_0 {T : List (Option Value)} {q : Nat} (C : gk_C cc ws own rm V) (d : decode cc pc = .ok (.aload_n 0, 1)) (k : gk_G lay M mc ms V W0 cells slots (pc + 1) (some (.ref q) :: T) (.ref q :: st)) : gk_G lay M mc ms V W0 cells slots pc (some (.ref q) :: T) st := by
  obtain ⟨K, h0, p, e, R, s, m, args, below, meth, c, nL⟩ := V
  obtain ⟨hx, hb, hml, hown, hts, hK, hAO, hNw, hlk, hr, rfl, hin⟩ := C
  intro H locs ls hP hD hS hl
  exact lv_aload_n hx hb d rfl (gl_L_at hl (i := 0) rfl) (k H locs ls hP hD hS hl)
theorem gk_astore_0 {o : Option Value} {T : List (Option Value)} {q : Nat} (C : gk_C cc ws own rm V) (d : decode cc pc = .ok (.astore_n 0, 1)) (k : gk_G lay M mc ms V W0 cells slots (pc + 1) (some (.ref q) :: T) st) (hc : gl_pc (o :: T) 0 = true := by with_unfolding_all rfl) : gk_G lay M mc ms V W0 cells slots pc (o :: T) (.ref q :: st) := by
  obtain ⟨K, h0, p, e, R, s, m, args, below, meth, c, nL⟩ := V
  obtain ⟨hx, hb, hml, hown, hts, hK, hAO, hNw, hlk, hr, rfl, hin⟩ := C
  intro H locs ls hP hD hS hl
  exact lv_astore_n hx hb d rfl (gl_L_has hl) (show 0 < nL by have := hl.2.2.1; simp at this; omega) rfl (fun ls' h' => k H locs ls' hP hD hS (gl_L_set (i := 0) hl rfl h' hc))
theorem gk_iincN_0 {T : List (Option Value)} {a v : Nat} {n : Int} (hn : Int32.ofInt n = nI v) (C : gk_C cc ws own rm V) (d : decode cc pc = .ok (.iinc 0 n, 3)) (k : gk_G lay M mc ms V W0 cells slots (pc + 3) (some (.int (nI (a + v))) :: T) st) (hc : gl_pc (some (.int (nI a)) :: T) 0 = true := by with_unfolding_all rfl) : gk_G lay M mc ms V W0 cells slots pc (some (.int (nI a)) :: T) st := by
  obtain ⟨K, h0, p, e, R, s, m, args, below, meth, c, nL⟩ := V
  obtain ⟨hx, hb, hml, hown, hts, hK, hAO, hNw, hlk, hr, rfl, hin⟩ := C
  intro H locs ls hP hD hS hl
  obtain ⟨kk, hkk⟩ := List.mem_iff_getElem?.mp (gl_al_mem (i := 0).mpr (show (some (Value.int (nI a)) :: T)[0]? = some (some (.int (nI a))) from rfl))
  exact lv_iinc hx hb d (gl_L_has hl) hkk (by rw [hn]; exact nI_add a v) (show 0 < nL by have := hl.2.2.1; simp at this; omega) rfl (fun ls' h' => k H locs ls' hP hD hS (gl_L_set (i := 0) hl rfl h' hc))
theorem gk_iload_1 {o0 : Option Value} {T : List (Option Value)} {x : Int32} (C : gk_C cc ws own rm V) (d : decode cc pc = .ok (.iload_n 1, 1)) (k : gk_G lay M mc ms V W0 cells slots (pc + 1) (o0 :: some (.int x) :: T) (.int x :: st)) : gk_G lay M mc ms V W0 cells slots pc (o0 :: some (.int x) :: T) st := by
  obtain ⟨K, h0, p, e, R, s, m, args, below, meth, c, nL⟩ := V
  obtain ⟨hx, hb, hml, hown, hts, hK, hAO, hNw, hlk, hr, rfl, hin⟩ := C
  intro H locs ls hP hD hS hl
  exact lv_iload_n hx hb d rfl (gl_L_at hl (i := 1) rfl) (k H locs ls hP hD hS hl)
theorem gk_istore_1 {o0 : Option Value} {o : Option Value} {T : List (Option Value)} {x : Int32} (C : gk_C cc ws own rm V) (d : decode cc pc = .ok (.istore_n 1, 1)) (k : gk_G lay M mc ms V W0 cells slots (pc + 1) (o0 :: some (.int x) :: T) st) (hc : gl_pc (o0 :: o :: T) 1 = true := by with_unfolding_all rfl) : gk_G lay M mc ms V W0 cells slots pc (o0 :: o :: T) (.int x :: st) := by
  obtain ⟨K, h0, p, e, R, s, m, args, below, meth, c, nL⟩ := V
  obtain ⟨hx, hb, hml, hown, hts, hK, hAO, hNw, hlk, hr, rfl, hin⟩ := C
  intro H locs ls hP hD hS hl
  exact lv_istore_n hx hb d rfl (gl_L_has hl) (show 1 < nL by have := hl.2.2.1; simp at this; omega) rfl (fun ls' h' => k H locs ls' hP hD hS (gl_L_set (i := 1) hl rfl h' hc))
theorem gk_aload_1 {o0 : Option Value} {T : List (Option Value)} {q : Nat} (C : gk_C cc ws own rm V) (d : decode cc pc = .ok (.aload_n 1, 1)) (k : gk_G lay M mc ms V W0 cells slots (pc + 1) (o0 :: some (.ref q) :: T) (.ref q :: st)) : gk_G lay M mc ms V W0 cells slots pc (o0 :: some (.ref q) :: T) st := by
  obtain ⟨K, h0, p, e, R, s, m, args, below, meth, c, nL⟩ := V
  obtain ⟨hx, hb, hml, hown, hts, hK, hAO, hNw, hlk, hr, rfl, hin⟩ := C
  intro H locs ls hP hD hS hl
  exact lv_aload_n hx hb d rfl (gl_L_at hl (i := 1) rfl) (k H locs ls hP hD hS hl)
theorem gk_astore_1 {o0 : Option Value} {o : Option Value} {T : List (Option Value)} {q : Nat} (C : gk_C cc ws own rm V) (d : decode cc pc = .ok (.astore_n 1, 1)) (k : gk_G lay M mc ms V W0 cells slots (pc + 1) (o0 :: some (.ref q) :: T) st) (hc : gl_pc (o0 :: o :: T) 1 = true := by with_unfolding_all rfl) : gk_G lay M mc ms V W0 cells slots pc (o0 :: o :: T) (.ref q :: st) := by
  obtain ⟨K, h0, p, e, R, s, m, args, below, meth, c, nL⟩ := V
  obtain ⟨hx, hb, hml, hown, hts, hK, hAO, hNw, hlk, hr, rfl, hin⟩ := C
  intro H locs ls hP hD hS hl
  exact lv_astore_n hx hb d rfl (gl_L_has hl) (show 1 < nL by have := hl.2.2.1; simp at this; omega) rfl (fun ls' h' => k H locs ls' hP hD hS (gl_L_set (i := 1) hl rfl h' hc))
theorem gk_iincN_1 {o0 : Option Value} {T : List (Option Value)} {a v : Nat} {n : Int} (hn : Int32.ofInt n = nI v) (C : gk_C cc ws own rm V) (d : decode cc pc = .ok (.iinc 1 n, 3)) (k : gk_G lay M mc ms V W0 cells slots (pc + 3) (o0 :: some (.int (nI (a + v))) :: T) st) (hc : gl_pc (o0 :: some (.int (nI a)) :: T) 1 = true := by with_unfolding_all rfl) : gk_G lay M mc ms V W0 cells slots pc (o0 :: some (.int (nI a)) :: T) st := by
  obtain ⟨K, h0, p, e, R, s, m, args, below, meth, c, nL⟩ := V
  obtain ⟨hx, hb, hml, hown, hts, hK, hAO, hNw, hlk, hr, rfl, hin⟩ := C
  intro H locs ls hP hD hS hl
  obtain ⟨kk, hkk⟩ := List.mem_iff_getElem?.mp (gl_al_mem (i := 1).mpr (show (o0 :: some (Value.int (nI a)) :: T)[1]? = some (some (.int (nI a))) from rfl))
  exact lv_iinc hx hb d (gl_L_has hl) hkk (by rw [hn]; exact nI_add a v) (show 1 < nL by have := hl.2.2.1; simp at this; omega) rfl (fun ls' h' => k H locs ls' hP hD hS (gl_L_set (i := 1) hl rfl h' hc))
end GKR
