/-! ===== the law's own body: two worlds side by side ===== -/
abbrev lw_V : Type := gk_K × Program × Env × State × MethodId × Nat × Nat × (Nat → Int32) × List Frame × Method × Code
def lw_b (V : lw_V) : Nat := V.2.2.2.2.2.1
def lw_n (V : lw_V) : Nat := V.2.2.2.2.2.2.1
def lw_x (V : lw_V) : Nat → Int32 := V.2.2.2.2.2.2.2.1
def lw_C : lw_V → Prop
  | (K, p, e, s, m, b, LL, xs, below, meth, c) => p.tables.exec = Jvm.exec ∧ c.code = cL_law ∧ c.maxLocals = 10 ∧ s.vm.findClass RL = some m.cls ∧ (∀ w ∈ wsL_law, w.before #[Value.ref b] s = true) ∧ va_K K.2.1 vwCl (gk_tys K) s ∧ va_AO "GoalLifts$House" s ∧ gk_Nw s ∧ va_X b LL xs s s.heap ∧ b < s.heap.size ∧ LL ≤ 260 ∧ meth.locks = false ∧ meth.sig.returnType = ret
def lw_A (sz : Nat) : Nat → Prop := fun q => sz ≤ q
def lw_G : lw_V → va_W → Nat → Nat → Nat → List (Option Value) → List Value → Prop
  | (K, p, e, s, m, b, LL, xs, below, meth, c), W0, cells, slots, pc, L, st => ∀ (H : Heap) (locs : List Loc) (ls : Array Slot), va_P K.2.1 vwCl W0 H → va_D (lw_A s.heap.size) W0 → va_S (lw_A s.heap.size) s.heap H locs → gl_L 10 ls L → W p K.1 e room_1 s m #[Value.ref b] below meth c H locs cells slots (lw_Z below #[Value.ref b] s) (F0 m pc ls st)
theorem lw_rgA {α : Type} {A B : List α} : (List.range A.length).map (fun i => (A ++ B)[i]?) = A.map some := by
  apply List.ext_getElem?
  intro i
  rw [List.getElem?_map, List.getElem?_map]
  by_cases hi : i < A.length
  · rw [List.getElem?_range hi, List.getElem?_eq_getElem hi]
    simp [List.getElem?_append_left hi, List.getElem?_eq_getElem hi]
  · rw [List.getElem?_eq_none (by simp; omega), List.getElem?_eq_none (by omega)]
    rfl
theorem lw_rgB {α : Type} {A B : List α} : ((List.range B.length).map (fun i => A.length + i)).map (fun i => (A ++ B)[i]?) = B.map some := by
  apply List.ext_getElem?
  intro i
  rw [List.getElem?_map, List.getElem?_map, List.getElem?_map]
  by_cases hi : i < B.length
  · rw [List.getElem?_range hi, List.getElem?_eq_getElem hi]
    simp [List.getElem?_append_right, List.getElem?_eq_getElem hi]
  · rw [List.getElem?_eq_none (by simp; omega), List.getElem?_eq_none (by omega)]
    rfl
theorem lw_nd : ∀ (l : List Nat), (∀ i j a : Nat, l[i]? = some a → l[j]? = some a → i = j) → va_nd l = true
  | [], _ => rfl
  | x :: l, h => by
    simp only [va_nd, Bool.and_eq_true, decide_eq_true_eq]
    refine ⟨fun hx => ?_, lw_nd l (fun i j a hi hj => Nat.succ.inj (h (i + 1) (j + 1) a hi hj))⟩
    obtain ⟨j, hj⟩ := List.mem_iff_getElem?.mp hx
    have := h 0 (j + 1) x rfl hj
    omega
theorem lw_ndB {n k : Nat} : va_nd ((List.range n).map (fun i => k + i)) = true := by
  refine lw_nd _ (fun i j a hi hj => ?_)
  rw [List.getElem?_map] at hi hj
  cases h1 : (List.range n)[i]? with
  | none => rw [h1] at hi; cases hi
  | some x =>
    cases h2 : (List.range n)[j]? with
    | none => rw [h2] at hj; cases hj
    | some y =>
      rw [h1] at hi
      rw [h2] at hj
      simp only [Option.map_some, Option.some.injEq] at hi hj
      obtain ⟨h3, e1⟩ := List.getElem?_eq_some_iff.mp h1
      obtain ⟨h4, e2⟩ := List.getElem?_eq_some_iff.mp h2
      simp at e1 e2
      omega
section LWR
variable {V : lw_V} {W0 W1 : va_W} {cells slots pc : Nat} {L L1 : List (Option Value)} {st rest : List Value}
theorem lw_ws (hW : W0 = W1) (h : lw_G V W1 cells slots pc L st) : lw_G V W0 cells slots pc L st := by rw [hW]; exact h
theorem lw_new {index ci N : Nat} {Cl : String} {T : u_T} {fs : List Value} (ty : Nat → FieldType) (C : lw_C V) (d : decode cL_law pc = .ok (.new index, 3)) (hci : vwCl[ci]? = some (Cl, T, N)) (hin0 : ∀ w ∈ u_ws Cl T N, w ∈ wsL_law) (hty : ∀ k, k < N → parseFieldDescriptor (T k).2.2.1 = some (ty k)) (h1 : Cond.classLink RL index Cl ∈ wsL_law) (h2 : Cond.instantiable Cl N ∈ wsL_law) (h3 : Cond.initialized Cl ∈ wsL_law)
    (hfs : ∀ j, j < N → defaultValue (ty j) = vp_V fs j) (hc : cells + 1 ≤ 600000) (hs : slots + N ≤ 7302250)
    (k : ∀ q, lw_G V (W0 ++ [(q, .inr (ci, fs))]) (cells + 1) (slots + N) (pc + 3) L (.ref q :: st)) : lw_G V W0 cells slots pc L st := by
  obtain ⟨K, p, e, s, m, b, LL, xs, below, meth, c⟩ := V
  obtain ⟨hx, hb, hml, hown, hts, hK, hAO, hNw, hX, hbl, hLL, hlk, hr⟩ := C
  intro H locs ls hP hD hS hl
  exact va_new (ci := ci) (fs := fs) hx hb hts hin0 ty hty hown (hts _ h1) (hts _ h2) (hts _ h3) hK hP hD hS (fun q hq => hq) hci hfs hc hs d (fun q H1 hP1 hD1 hS1 => k q H1 locs ls hP1 hD1 hS1 hl)
/-- a constructor called on the object made last -/
theorem lw_init {index ci maxL a mc1 ms1 : Nat} {fs : List Value} {y : MethodName} {wsc wsc' : List Cond} {bytes : ByteArray} {rmc : Room} {layc : List gl_Ce} {Mc : Nat → Int32} {A : va_W}
    (ct : gk_Kt V.1 y wsc rmc ci fs layc Mc mc1 ms1) (C : lw_C V) (d : decode cL_law pc = .ok (.invokespecial index, 3)) (g : GoodIn wsL_law wsc) (hw : wsc = Cond.code y bytes maxL none :: wsc') (h1 : Cond.initialized y.cls ∈ wsL_law) (h2 : Cond.methodLink RL index y ∈ wsL_law) (h3 : Cond.instanceMethod y ∈ wsL_law) (hy : y.name = "<init>")
    (hd : y.cls ≠ "java/lang/invoke/MethodHandle" ∧ y.cls ≠ "java/lang/invoke/VarHandle" ∧ (parseMethodDescriptor y.desc).map (fun d => d.parameters.length) = some 0) (hrm : rmc.cells = mc1 ∧ rmc.slots = ms1 ∧ rmc.frames + 1 ≤ room_1.frames ∧ 8 + (maxL + 11) + rmc.locals ≤ room_1.locals)
    (hf : cells + mc1 ≤ room_1.cells ∧ slots + ms1 ≤ room_1.slots) (hrest : (st.map fun v => v.category).sum ≤ 8)
    (k : ∀ r : Nat → Nat, r 0 = a → lw_G V (A ++ gl_w (gk_F V.1 r) layc Mc) (cells + mc1) (slots + ms1) (pc + 3) L st) : lw_G V (A ++ [(a, .inr (ci, fs))]) cells slots pc L (.ref a :: st) := by
  obtain ⟨K, p, e, s, m, b, LL, xs, below, meth, c⟩ := V
  obtain ⟨hx, hb, hml, hown, hts, hK, hAO, hNw, hX, hbl, hLL, hlk, hr⟩ := C
  intro H locs ls hP hD hS hl
  have hq : (A ++ [(a, (Sum.inr (ci, fs) : va_E))])[A.length]? = some (a, .inr (ci, fs)) := gk_last rfl
  have hPc : va_P K.2.1 vwCl [(a, .inr (ci, fs))] H := fun j q hj => by
    have h := (List.getElem?_eq_some_iff.mp hj).1
    simp at h
    subst h
    simp at hj
    subst hj
    exact hP _ _ hq
  have hcw := cwI (R := room_1) 0 hts g hw hrm.1 hrm.2.1 (hts _ h1) (hts _ h2) (hts _ h3) hy hd hrm.2.2
  have hsub : ∀ q, gk_A a H.size q → lw_A s.heap.size q := by
    intro q hq'
    rcases hq' with h | h
    · rw [h]; exact hD.2 _ _ hq
    · exact Nat.le_trans hS.1 h
  have hrun : va_Run p K.1 e room_1 s m #[Value.ref b] below meth c H locs cells slots mc1 ms1 (F0 m pc ls (.ref a :: st)) st (gk_Q K a H.size layc Mc (Value.ref a :: ([] : List Value)).toArray) (gk_A a H.size) := va_runI (g := F0 m pc ls (.ref a :: st)) (As := []) (rest := st) ⟨hx, hb, hml, hown, hts⟩ (ct a H.size) hcw ⟨fun a' U g mk q => ⟨q.1, q.2.1, q.2.2.1, va_K.moved (u := U) (U := U.calling g mk a') (Vm.Alike.refl U.vm) q.2.2.2.1, va_AO.moved (u := U) (U := U.calling g mk a') (Vm.Alike.refl U.vm) q.2.2.2.2.1, gk_Nw.same (u := U) (U := U.calling g mk a') rfl q.2.2.2.2.2⟩, fun U hU hW => ⟨rfl, by rw [hU], by rw [hU]; exact hPc, va_K.moved hW.alike hK, va_AO.moved hW.alike hAO, gk_Nw.warm hW hNw⟩⟩ rfl rfl hl.1 rfl (lv_room hrest) d hf
  intro T hT X
  obtain ⟨v, st₀, t, T', L2, e0, X', hL, e1, e2, ⟨hv, ⟨r, r1, r2, r3, r4⟩, hz, hk⟩, stp⟩ := hrun T hT X
  cases hv
  rw [e0] at hz hk
  have hP1 : va_P K.2.1 vwCl (gl_w (gk_F K r) layc Mc) T'.heap := by rw [e1]; exact r4
  have hAa : ∀ q, va_A [(a, (Sum.inr (ci, fs) : va_E))] H.size q ↔ gk_A a H.size q := by
    intro q
    constructor
    · rintro (⟨j, e', hj⟩ | h)
      · have h := (List.getElem?_eq_some_iff.mp hj).1
        simp at h
        subst h
        simp at hj
        exact Or.inl hj.1.symm
      · exact Or.inr h
    · rintro (h | h)
      · exact Or.inl ⟨0, .inr (ci, fs), by rw [h]; rfl⟩
      · exact Or.inr h
  have hD1 : va_D (va_A [(a, (Sum.inr (ci, fs) : va_E))] H.size) (gl_w (gk_F K r) layc Mc) := by
    refine ⟨(gl_w_D r3).1, fun j q hj => ?_⟩
    obtain ⟨cc', h1', rfl⟩ := gl_w_inv hj
    refine (hAa _).mpr ?_
    by_cases hj0 : j = 0
    · subst hj0; exact Or.inl r1
    · exact Or.inr (r2 j (by omega) (List.getElem?_eq_some_iff.mp h1').1)
  obtain ⟨hP2, hD2⟩ := va_join (wr := A) (w1 := gl_w (gk_F K r) layc Mc) (wc := [(a, .inr (ci, fs))]) hP hD [A.length] (List.range A.length) (by simp) lw_rgA (by have := lw_ndB (n := A.length) (k := 0); simpa using this) (fun i hi => by have := List.mem_range.mp hi; simp; omega) (fun q h1' h2' => by rw [e1]; exact hk q h1' (fun h => h2' ((hAa q).mpr h))) (fun q h => hsub q ((hAa q).mp h)) hP1 hD1
  obtain ⟨t2, a1, b1⟩ := k r r1 T'.heap (locs ++ L2) ls hP2 hD2 ⟨Nat.le_trans hS.1 (by rw [e1]; exact hz), fun q h1' h2' => by rw [e1, hk q (Nat.lt_of_lt_of_le h1' hS.1) (fun h => h2' (hsub q h))]; exact hS.2.1 q h1' h2', fun q hq' => by
      rcases List.mem_append.mp hq' with h | h
      · exact hS.2.2 q h
      · exact hsub _ (hL q h)⟩ hl T' rfl X'
  exact ⟨t2, stp t2 a1, b1⟩
theorem lw_iconst {n : Int} (v : Int32) (C : lw_C V) (d : decode cL_law pc = .ok (.iconst n, 1)) (hv : Int32.ofInt n = v) (k : lw_G V W0 cells slots (pc + 1) L (.int v :: st)) : lw_G V W0 cells slots pc L st := by
  obtain ⟨K, p, e, s, m, b, N, xs, below, meth, c⟩ := V
  obtain ⟨hx, hb, hml, hown, hts, hK, hAO, hNw, hX, hbl, hLL, hlk, hr⟩ := C
  intro H locs ls hP hD hS hl
  exact lv_iconst hx hb d hv (k H locs ls hP hD hS hl)
theorem lw_bipush {n : Int} (v : Int32) (C : lw_C V) (d : decode cL_law pc = .ok (.bipush n, 2)) (hv : (Int8.ofInt n).toInt32 = v) (k : lw_G V W0 cells slots (pc + 2) L (.int v :: st)) : lw_G V W0 cells slots pc L st := by
  obtain ⟨K, p, e, s, m, b, N, xs, below, meth, c⟩ := V
  obtain ⟨hx, hb, hml, hown, hts, hK, hAO, hNw, hX, hbl, hLL, hlk, hr⟩ := C
  intro H locs ls hP hD hS hl
  exact lv_bipush hx hb d hv (k H locs ls hP hD hS hl)
theorem lw_sipush {n : Int} (v : Int32) (C : lw_C V) (d : decode cL_law pc = .ok (.sipush n, 3)) (hv : (Int16.ofInt n).toInt32 = v) (k : lw_G V W0 cells slots (pc + 3) L (.int v :: st)) : lw_G V W0 cells slots pc L st := by
  obtain ⟨K, p, e, s, m, b, N, xs, below, meth, c⟩ := V
  obtain ⟨hx, hb, hml, hown, hts, hK, hAO, hNw, hX, hbl, hLL, hlk, hr⟩ := C
  intro H locs ls hP hD hS hl
  exact lv_sipush hx hb d hv (k H locs ls hP hD hS hl)
theorem lw_ldc {index : Nat} (v : Int32) (C : lw_C V) (d : decode cL_law pc = .ok (.ldc index, 2)) (hv : Cond.constant RL index v ∈ wsL_law) (k : lw_G V W0 cells slots (pc + 2) L (.int v :: st)) : lw_G V W0 cells slots pc L st := by
  obtain ⟨K, p, e, s, m, b, N, xs, below, meth, c⟩ := V
  obtain ⟨hx, hb, hml, hown, hts, hK, hAO, hNw, hX, hbl, hLL, hlk, hr⟩ := C
  intro H locs ls hP hD hS hl
  exact lv_ldc hx hb hown (hts _ hv) d (k H locs ls hP hD hS hl)
theorem lw_isub {x y : Int32} (C : lw_C V) (d : decode cL_law pc = .ok (.isub, 1)) (k : lw_G V W0 cells slots (pc + 1) L (.int (x - y) :: st)) : lw_G V W0 cells slots pc L (.int y :: .int x :: st) := by
  obtain ⟨K, p, e, s, m, b, N, xs, below, meth, c⟩ := V
  obtain ⟨hx, hb, hml, hown, hts, hK, hAO, hNw, hX, hbl, hLL, hlk, hr⟩ := C
  intro H locs ls hP hD hS hl
  exact lv_isub hx hb d (k H locs ls hP hD hS hl)
theorem lw_iand {x y : Int32} (C : lw_C V) (d : decode cL_law pc = .ok (.iand, 1)) (k : lw_G V W0 cells slots (pc + 1) L (.int (x &&& y) :: st)) : lw_G V W0 cells slots pc L (.int y :: .int x :: st) := by
  obtain ⟨K, p, e, s, m, b, N, xs, below, meth, c⟩ := V
  obtain ⟨hx, hb, hml, hown, hts, hK, hAO, hNw, hX, hbl, hLL, hlk, hr⟩ := C
  intro H locs ls hP hD hS hl
  exact lv_iand hx hb d (k H locs ls hP hD hS hl)
theorem lw_ixor {x y : Int32} (C : lw_C V) (d : decode cL_law pc = .ok (.ixor, 1)) (k : lw_G V W0 cells slots (pc + 1) L (.int (x ^^^ y) :: st)) : lw_G V W0 cells slots pc L (.int y :: .int x :: st) := by
  obtain ⟨K, p, e, s, m, b, N, xs, below, meth, c⟩ := V
  obtain ⟨hx, hb, hml, hown, hts, hK, hAO, hNw, hX, hbl, hLL, hlk, hr⟩ := C
  intro H locs ls hP hD hS hl
  exact lv_ixor hx hb d (k H locs ls hP hD hS hl)
theorem lw_iadd {x y : Int32} (C : lw_C V) (d : decode cL_law pc = .ok (.iadd, 1)) (k : lw_G V W0 cells slots (pc + 1) L (.int (x + y) :: st)) : lw_G V W0 cells slots pc L (.int y :: .int x :: st) := by
  obtain ⟨K, p, e, s, m, b, N, xs, below, meth, c⟩ := V
  obtain ⟨hx, hb, hml, hown, hts, hK, hAO, hNw, hX, hbl, hLL, hlk, hr⟩ := C
  intro H locs ls hP hD hS hl
  exact lv_iadd hx hb d (k H locs ls hP hD hS hl)
theorem lw_imul {x y : Int32} (C : lw_C V) (d : decode cL_law pc = .ok (.imul, 1)) (k : lw_G V W0 cells slots (pc + 1) L (.int (x * y) :: st)) : lw_G V W0 cells slots pc L (.int y :: .int x :: st) := by
  obtain ⟨K, p, e, s, m, b, N, xs, below, meth, c⟩ := V
  obtain ⟨hx, hb, hml, hown, hts, hK, hAO, hNw, hX, hbl, hLL, hlk, hr⟩ := C
  intro H locs ls hP hD hS hl
  exact lv_imul hx hb d (k H locs ls hP hD hS hl)
theorem lw_idiv {x y : Int32} (C : lw_C V) (d : decode cL_law pc = .ok (.idiv, 1)) (hne : ¬ y = 0) (k : lw_G V W0 cells slots (pc + 1) L (.int (x / y) :: st)) : lw_G V W0 cells slots pc L (.int y :: .int x :: st) := by
  obtain ⟨K, p, e, s, m, b, N, xs, below, meth, c⟩ := V
  obtain ⟨hx, hb, hml, hown, hts, hK, hAO, hNw, hX, hbl, hLL, hlk, hr⟩ := C
  intro H locs ls hP hD hS hl
  exact lv_idiv hx hb d hne (k H locs ls hP hD hS hl)
theorem lw_dupR {q : Nat} (C : lw_C V) (d : decode cL_law pc = .ok (.dup, 1)) (k : lw_G V W0 cells slots (pc + 1) L (.ref q :: .ref q :: st)) : lw_G V W0 cells slots pc L (.ref q :: st) := by
  obtain ⟨K, p, e, s, m, b, N, xs, below, meth, c⟩ := V
  obtain ⟨hx, hb, hml, hown, hts, hK, hAO, hNw, hX, hbl, hLL, hlk, hr⟩ := C
  intro H locs ls hP hD hS hl
  exact lv_dup hx hb d rfl (k H locs ls hP hD hS hl)
theorem lw_goto {off : Int} (tgt : Nat) (C : lw_C V) (d : decode cL_law pc = .ok (.goto off, 3)) (ht : (pc : Int) + off = (tgt : Int)) (k : lw_G V W0 cells slots tgt L st) : lw_G V W0 cells slots pc L st := by
  obtain ⟨K, p, e, s, m, b, N, xs, below, meth, c⟩ := V
  obtain ⟨hx, hb, hml, hown, hts, hK, hAO, hNw, hX, hbl, hLL, hlk, hr⟩ := C
  intro H locs ls hP hD hS hl
  exact lv_goto hx hb d ht (k H locs ls hP hD hS hl)
theorem lw_icmp_ge {x y : Int32} {off : Int} (tgt : Nat) (C : lw_C V) (d : decode cL_law pc = .ok (.if_icmp .ge off, 3)) (ht : (pc : Int) + off = (tgt : Int)) (kt : y ≤ x → lw_G V W0 cells slots tgt L st) (kf : ¬ y ≤ x → lw_G V W0 cells slots (pc + 3) L st) : lw_G V W0 cells slots pc L (.int y :: .int x :: st) := by
  obtain ⟨K, p, e, s, m, b, N, xs, below, meth, c⟩ := V
  obtain ⟨hx, hb, hml, hown, hts, hK, hAO, hNw, hX, hbl, hLL, hlk, hr⟩ := C
  intro H locs ls hP hD hS hl
  exact lv_icmp_ge hx hb d ht (fun q => kt q H locs ls hP hD hS hl) (fun q => kf q H locs ls hP hD hS hl)
theorem lw_icmp_ne {x y : Int32} {off : Int} (tgt : Nat) (C : lw_C V) (d : decode cL_law pc = .ok (.if_icmp .ne off, 3)) (ht : (pc : Int) + off = (tgt : Int)) (kt : ¬ x = y → lw_G V W0 cells slots tgt L st) (kf : x = y → lw_G V W0 cells slots (pc + 3) L st) : lw_G V W0 cells slots pc L (.int y :: .int x :: st) := by
  obtain ⟨K, p, e, s, m, b, N, xs, below, meth, c⟩ := V
  obtain ⟨hx, hb, hml, hown, hts, hK, hAO, hNw, hX, hbl, hLL, hlk, hr⟩ := C
  intro H locs ls hP hD hS hl
  exact lv_icmp_ne hx hb d ht (fun q => kt q H locs ls hP hD hS hl) (fun q => kf q H locs ls hP hD hS hl)
theorem lw_ifeq {x : Int32} {off : Int} (tgt : Nat) (C : lw_C V) (d : decode cL_law pc = .ok (.ifCond .eq off, 3)) (ht : (pc : Int) + off = (tgt : Int)) (kt : x = 0 → lw_G V W0 cells slots tgt L st) (kf : ¬ x = 0 → lw_G V W0 cells slots (pc + 3) L st) : lw_G V W0 cells slots pc L (.int x :: st) := by
  obtain ⟨K, p, e, s, m, b, N, xs, below, meth, c⟩ := V
  obtain ⟨hx, hb, hml, hown, hts, hK, hAO, hNw, hX, hbl, hLL, hlk, hr⟩ := C
  intro H locs ls hP hD hS hl
  exact lv_if_eq hx hb d ht (fun q => kt q H locs ls hP hD hS hl) (fun q => kf q H locs ls hP hD hS hl)
theorem lw_aload_0 {T : List (Option Value)} {q : Nat} (C : lw_C V) (d : decode cL_law pc = .ok (.aload_n 0, 1)) (k : lw_G V W0 cells slots (pc + 1) (some (.ref q) :: T) (.ref q :: st)) : lw_G V W0 cells slots pc (some (.ref q) :: T) st := by
  obtain ⟨K, p, e, s, m, b, N, xs, below, meth, c⟩ := V
  obtain ⟨hx, hb, hml, hown, hts, hK, hAO, hNw, hX, hbl, hLL, hlk, hr⟩ := C
  intro H locs ls hP hD hS hl
  exact lv_aload_n hx hb d rfl (gl_L_at hl (i := 0) rfl) (k H locs ls hP hD hS hl)
theorem lw_aload_1 {o0 : Option Value} {T : List (Option Value)} {q : Nat} (C : lw_C V) (d : decode cL_law pc = .ok (.aload_n 1, 1)) (k : lw_G V W0 cells slots (pc + 1) (o0 :: some (.ref q) :: T) (.ref q :: st)) : lw_G V W0 cells slots pc (o0 :: some (.ref q) :: T) st := by
  obtain ⟨K, p, e, s, m, b, N, xs, below, meth, c⟩ := V
  obtain ⟨hx, hb, hml, hown, hts, hK, hAO, hNw, hX, hbl, hLL, hlk, hr⟩ := C
  intro H locs ls hP hD hS hl
  exact lv_aload_n hx hb d rfl (gl_L_at hl (i := 1) rfl) (k H locs ls hP hD hS hl)
theorem lw_astore_1 {o0 : Option Value} {o : Option Value} {T : List (Option Value)} {q : Nat} (C : lw_C V) (d : decode cL_law pc = .ok (.astore_n 1, 1)) (k : lw_G V W0 cells slots (pc + 1) (o0 :: some (.ref q) :: T) st) (hc : gl_pc (o0 :: o :: T) 1 = true := by with_unfolding_all rfl) : lw_G V W0 cells slots pc (o0 :: o :: T) (.ref q :: st) := by
  obtain ⟨K, p, e, s, m, b, N, xs, below, meth, c⟩ := V
  obtain ⟨hx, hb, hml, hown, hts, hK, hAO, hNw, hX, hbl, hLL, hlk, hr⟩ := C
  intro H locs ls hP hD hS hl
  exact lv_astore_n hx hb d rfl (gl_L_has hl) (show 1 < 10 by omega) rfl (fun ls' h' => k H locs ls' hP hD hS (gl_L_set (i := 1) hl rfl h' hc))
theorem lw_aload_2 {o0 o1 : Option Value} {T : List (Option Value)} {q : Nat} (C : lw_C V) (d : decode cL_law pc = .ok (.aload_n 2, 1)) (k : lw_G V W0 cells slots (pc + 1) (o0 :: o1 :: some (.ref q) :: T) (.ref q :: st)) : lw_G V W0 cells slots pc (o0 :: o1 :: some (.ref q) :: T) st := by
  obtain ⟨K, p, e, s, m, b, N, xs, below, meth, c⟩ := V
  obtain ⟨hx, hb, hml, hown, hts, hK, hAO, hNw, hX, hbl, hLL, hlk, hr⟩ := C
  intro H locs ls hP hD hS hl
  exact lv_aload_n hx hb d rfl (gl_L_at hl (i := 2) rfl) (k H locs ls hP hD hS hl)
theorem lw_astore_2 {o0 o1 : Option Value} {o : Option Value} {T : List (Option Value)} {q : Nat} (C : lw_C V) (d : decode cL_law pc = .ok (.astore_n 2, 1)) (k : lw_G V W0 cells slots (pc + 1) (o0 :: o1 :: some (.ref q) :: T) st) (hc : gl_pc (o0 :: o1 :: o :: T) 2 = true := by with_unfolding_all rfl) : lw_G V W0 cells slots pc (o0 :: o1 :: o :: T) (.ref q :: st) := by
  obtain ⟨K, p, e, s, m, b, N, xs, below, meth, c⟩ := V
  obtain ⟨hx, hb, hml, hown, hts, hK, hAO, hNw, hX, hbl, hLL, hlk, hr⟩ := C
  intro H locs ls hP hD hS hl
  exact lv_astore_n hx hb d rfl (gl_L_has hl) (show 2 < 10 by omega) rfl (fun ls' h' => k H locs ls' hP hD hS (gl_L_set (i := 2) hl rfl h' hc))
theorem lw_aload_3 {o0 o1 o2 : Option Value} {T : List (Option Value)} {q : Nat} (C : lw_C V) (d : decode cL_law pc = .ok (.aload_n 3, 1)) (k : lw_G V W0 cells slots (pc + 1) (o0 :: o1 :: o2 :: some (.ref q) :: T) (.ref q :: st)) : lw_G V W0 cells slots pc (o0 :: o1 :: o2 :: some (.ref q) :: T) st := by
  obtain ⟨K, p, e, s, m, b, N, xs, below, meth, c⟩ := V
  obtain ⟨hx, hb, hml, hown, hts, hK, hAO, hNw, hX, hbl, hLL, hlk, hr⟩ := C
  intro H locs ls hP hD hS hl
  exact lv_aload_n hx hb d rfl (gl_L_at hl (i := 3) rfl) (k H locs ls hP hD hS hl)
theorem lw_astore_3 {o0 o1 o2 : Option Value} {o : Option Value} {T : List (Option Value)} {q : Nat} (C : lw_C V) (d : decode cL_law pc = .ok (.astore_n 3, 1)) (k : lw_G V W0 cells slots (pc + 1) (o0 :: o1 :: o2 :: some (.ref q) :: T) st) (hc : gl_pc (o0 :: o1 :: o2 :: o :: T) 3 = true := by with_unfolding_all rfl) : lw_G V W0 cells slots pc (o0 :: o1 :: o2 :: o :: T) (.ref q :: st) := by
  obtain ⟨K, p, e, s, m, b, N, xs, below, meth, c⟩ := V
  obtain ⟨hx, hb, hml, hown, hts, hK, hAO, hNw, hX, hbl, hLL, hlk, hr⟩ := C
  intro H locs ls hP hD hS hl
  exact lv_astore_n hx hb d rfl (gl_L_has hl) (show 3 < 10 by omega) rfl (fun ls' h' => k H locs ls' hP hD hS (gl_L_set (i := 3) hl rfl h' hc))
theorem lw_aload_4 {o0 o1 o2 o3 : Option Value} {T : List (Option Value)} {q : Nat} (C : lw_C V) (d : decode cL_law pc = .ok (.aload 4, 2)) (k : lw_G V W0 cells slots (pc + 2) (o0 :: o1 :: o2 :: o3 :: some (.ref q) :: T) (.ref q :: st)) : lw_G V W0 cells slots pc (o0 :: o1 :: o2 :: o3 :: some (.ref q) :: T) st := by
  obtain ⟨K, p, e, s, m, b, N, xs, below, meth, c⟩ := V
  obtain ⟨hx, hb, hml, hown, hts, hK, hAO, hNw, hX, hbl, hLL, hlk, hr⟩ := C
  intro H locs ls hP hD hS hl
  exact lv_aload hx hb d (gl_L_at hl (i := 4) rfl) (k H locs ls hP hD hS hl)
theorem lw_astore_4 {o0 o1 o2 o3 : Option Value} {o : Option Value} {T : List (Option Value)} {q : Nat} (C : lw_C V) (d : decode cL_law pc = .ok (.astore 4, 2)) (k : lw_G V W0 cells slots (pc + 2) (o0 :: o1 :: o2 :: o3 :: some (.ref q) :: T) st) (hc : gl_pc (o0 :: o1 :: o2 :: o3 :: o :: T) 4 = true := by with_unfolding_all rfl) : lw_G V W0 cells slots pc (o0 :: o1 :: o2 :: o3 :: o :: T) (.ref q :: st) := by
  obtain ⟨K, p, e, s, m, b, N, xs, below, meth, c⟩ := V
  obtain ⟨hx, hb, hml, hown, hts, hK, hAO, hNw, hX, hbl, hLL, hlk, hr⟩ := C
  intro H locs ls hP hD hS hl
  exact lv_astore hx hb d (gl_L_has hl) (show 4 < 10 by omega) rfl (fun ls' h' => k H locs ls' hP hD hS (gl_L_set (i := 4) hl rfl h' hc))
theorem lw_aload_5 {o0 o1 o2 o3 o4 : Option Value} {T : List (Option Value)} {q : Nat} (C : lw_C V) (d : decode cL_law pc = .ok (.aload 5, 2)) (k : lw_G V W0 cells slots (pc + 2) (o0 :: o1 :: o2 :: o3 :: o4 :: some (.ref q) :: T) (.ref q :: st)) : lw_G V W0 cells slots pc (o0 :: o1 :: o2 :: o3 :: o4 :: some (.ref q) :: T) st := by
  obtain ⟨K, p, e, s, m, b, N, xs, below, meth, c⟩ := V
  obtain ⟨hx, hb, hml, hown, hts, hK, hAO, hNw, hX, hbl, hLL, hlk, hr⟩ := C
  intro H locs ls hP hD hS hl
  exact lv_aload hx hb d (gl_L_at hl (i := 5) rfl) (k H locs ls hP hD hS hl)
theorem lw_astore_5 {o0 o1 o2 o3 o4 : Option Value} {o : Option Value} {T : List (Option Value)} {q : Nat} (C : lw_C V) (d : decode cL_law pc = .ok (.astore 5, 2)) (k : lw_G V W0 cells slots (pc + 2) (o0 :: o1 :: o2 :: o3 :: o4 :: some (.ref q) :: T) st) (hc : gl_pc (o0 :: o1 :: o2 :: o3 :: o4 :: o :: T) 5 = true := by with_unfolding_all rfl) : lw_G V W0 cells slots pc (o0 :: o1 :: o2 :: o3 :: o4 :: o :: T) (.ref q :: st) := by
  obtain ⟨K, p, e, s, m, b, N, xs, below, meth, c⟩ := V
  obtain ⟨hx, hb, hml, hown, hts, hK, hAO, hNw, hX, hbl, hLL, hlk, hr⟩ := C
  intro H locs ls hP hD hS hl
  exact lv_astore hx hb d (gl_L_has hl) (show 5 < 10 by omega) rfl (fun ls' h' => k H locs ls' hP hD hS (gl_L_set (i := 5) hl rfl h' hc))
theorem lw_aload_6 {o0 o1 o2 o3 o4 o5 : Option Value} {T : List (Option Value)} {q : Nat} (C : lw_C V) (d : decode cL_law pc = .ok (.aload 6, 2)) (k : lw_G V W0 cells slots (pc + 2) (o0 :: o1 :: o2 :: o3 :: o4 :: o5 :: some (.ref q) :: T) (.ref q :: st)) : lw_G V W0 cells slots pc (o0 :: o1 :: o2 :: o3 :: o4 :: o5 :: some (.ref q) :: T) st := by
  obtain ⟨K, p, e, s, m, b, N, xs, below, meth, c⟩ := V
  obtain ⟨hx, hb, hml, hown, hts, hK, hAO, hNw, hX, hbl, hLL, hlk, hr⟩ := C
  intro H locs ls hP hD hS hl
  exact lv_aload hx hb d (gl_L_at hl (i := 6) rfl) (k H locs ls hP hD hS hl)
theorem lw_astore_6 {o0 o1 o2 o3 o4 o5 : Option Value} {o : Option Value} {T : List (Option Value)} {q : Nat} (C : lw_C V) (d : decode cL_law pc = .ok (.astore 6, 2)) (k : lw_G V W0 cells slots (pc + 2) (o0 :: o1 :: o2 :: o3 :: o4 :: o5 :: some (.ref q) :: T) st) (hc : gl_pc (o0 :: o1 :: o2 :: o3 :: o4 :: o5 :: o :: T) 6 = true := by with_unfolding_all rfl) : lw_G V W0 cells slots pc (o0 :: o1 :: o2 :: o3 :: o4 :: o5 :: o :: T) (.ref q :: st) := by
  obtain ⟨K, p, e, s, m, b, N, xs, below, meth, c⟩ := V
  obtain ⟨hx, hb, hml, hown, hts, hK, hAO, hNw, hX, hbl, hLL, hlk, hr⟩ := C
  intro H locs ls hP hD hS hl
  exact lv_astore hx hb d (gl_L_has hl) (show 6 < 10 by omega) rfl (fun ls' h' => k H locs ls' hP hD hS (gl_L_set (i := 6) hl rfl h' hc))
theorem lw_iload_7 {o0 o1 o2 o3 o4 o5 o6 : Option Value} {T : List (Option Value)} {x : Int32} (C : lw_C V) (d : decode cL_law pc = .ok (.iload 7, 2)) (k : lw_G V W0 cells slots (pc + 2) (o0 :: o1 :: o2 :: o3 :: o4 :: o5 :: o6 :: some (.int x) :: T) (.int x :: st)) : lw_G V W0 cells slots pc (o0 :: o1 :: o2 :: o3 :: o4 :: o5 :: o6 :: some (.int x) :: T) st := by
  obtain ⟨K, p, e, s, m, b, N, xs, below, meth, c⟩ := V
  obtain ⟨hx, hb, hml, hown, hts, hK, hAO, hNw, hX, hbl, hLL, hlk, hr⟩ := C
  intro H locs ls hP hD hS hl
  exact lv_iload hx hb d (gl_L_at hl (i := 7) rfl) (k H locs ls hP hD hS hl)
theorem lw_istore_7 {o0 o1 o2 o3 o4 o5 o6 : Option Value} {o : Option Value} {T : List (Option Value)} {x : Int32} (C : lw_C V) (d : decode cL_law pc = .ok (.istore 7, 2)) (k : lw_G V W0 cells slots (pc + 2) (o0 :: o1 :: o2 :: o3 :: o4 :: o5 :: o6 :: some (.int x) :: T) st) (hc : gl_pc (o0 :: o1 :: o2 :: o3 :: o4 :: o5 :: o6 :: o :: T) 7 = true := by with_unfolding_all rfl) : lw_G V W0 cells slots pc (o0 :: o1 :: o2 :: o3 :: o4 :: o5 :: o6 :: o :: T) (.int x :: st) := by
  obtain ⟨K, p, e, s, m, b, N, xs, below, meth, c⟩ := V
  obtain ⟨hx, hb, hml, hown, hts, hK, hAO, hNw, hX, hbl, hLL, hlk, hr⟩ := C
  intro H locs ls hP hD hS hl
  exact lv_istore hx hb d (gl_L_has hl) (show 7 < 10 by omega) rfl (fun ls' h' => k H locs ls' hP hD hS (gl_L_set (i := 7) hl rfl h' hc))
theorem lw_iincN_7 {o0 o1 o2 o3 o4 o5 o6 : Option Value} {T : List (Option Value)} {a v : Nat} {n : Int} (hn : Int32.ofInt n = nI v) (C : lw_C V) (d : decode cL_law pc = .ok (.iinc 7 n, 3)) (k : lw_G V W0 cells slots (pc + 3) (o0 :: o1 :: o2 :: o3 :: o4 :: o5 :: o6 :: some (.int (nI (a + v))) :: T) st) (hc : gl_pc (o0 :: o1 :: o2 :: o3 :: o4 :: o5 :: o6 :: some (.int (nI a)) :: T) 7 = true := by with_unfolding_all rfl) : lw_G V W0 cells slots pc (o0 :: o1 :: o2 :: o3 :: o4 :: o5 :: o6 :: some (.int (nI a)) :: T) st := by
  obtain ⟨K, p, e, s, m, b, N, xs, below, meth, c⟩ := V
  obtain ⟨hx, hb, hml, hown, hts, hK, hAO, hNw, hX, hbl, hLL, hlk, hr⟩ := C
  intro H locs ls hP hD hS hl
  obtain ⟨kk, hkk⟩ := List.mem_iff_getElem?.mp (gl_al_mem (i := 7).mpr (show (o0 :: o1 :: o2 :: o3 :: o4 :: o5 :: o6 :: some (Value.int (nI a)) :: T)[7]? = some (some (.int (nI a))) from rfl))
  exact lv_iinc hx hb d (gl_L_has hl) hkk (by rw [hn]; exact nI_add a v) (show 7 < 10 by omega) rfl (fun ls' h' => k H locs ls' hP hD hS (gl_L_set (i := 7) hl rfl h' hc))
theorem lw_iload_8 {o0 o1 o2 o3 o4 o5 o6 o7 : Option Value} {T : List (Option Value)} {x : Int32} (C : lw_C V) (d : decode cL_law pc = .ok (.iload 8, 2)) (k : lw_G V W0 cells slots (pc + 2) (o0 :: o1 :: o2 :: o3 :: o4 :: o5 :: o6 :: o7 :: some (.int x) :: T) (.int x :: st)) : lw_G V W0 cells slots pc (o0 :: o1 :: o2 :: o3 :: o4 :: o5 :: o6 :: o7 :: some (.int x) :: T) st := by
  obtain ⟨K, p, e, s, m, b, N, xs, below, meth, c⟩ := V
  obtain ⟨hx, hb, hml, hown, hts, hK, hAO, hNw, hX, hbl, hLL, hlk, hr⟩ := C
  intro H locs ls hP hD hS hl
  exact lv_iload hx hb d (gl_L_at hl (i := 8) rfl) (k H locs ls hP hD hS hl)
theorem lw_istore_8 {o0 o1 o2 o3 o4 o5 o6 o7 : Option Value} {o : Option Value} {T : List (Option Value)} {x : Int32} (C : lw_C V) (d : decode cL_law pc = .ok (.istore 8, 2)) (k : lw_G V W0 cells slots (pc + 2) (o0 :: o1 :: o2 :: o3 :: o4 :: o5 :: o6 :: o7 :: some (.int x) :: T) st) (hc : gl_pc (o0 :: o1 :: o2 :: o3 :: o4 :: o5 :: o6 :: o7 :: o :: T) 8 = true := by with_unfolding_all rfl) : lw_G V W0 cells slots pc (o0 :: o1 :: o2 :: o3 :: o4 :: o5 :: o6 :: o7 :: o :: T) (.int x :: st) := by
  obtain ⟨K, p, e, s, m, b, N, xs, below, meth, c⟩ := V
  obtain ⟨hx, hb, hml, hown, hts, hK, hAO, hNw, hX, hbl, hLL, hlk, hr⟩ := C
  intro H locs ls hP hD hS hl
  exact lv_istore hx hb d (gl_L_has hl) (show 8 < 10 by omega) rfl (fun ls' h' => k H locs ls' hP hD hS (gl_L_set (i := 8) hl rfl h' hc))
theorem lw_iincN_8 {o0 o1 o2 o3 o4 o5 o6 o7 : Option Value} {T : List (Option Value)} {a v : Nat} {n : Int} (hn : Int32.ofInt n = nI v) (C : lw_C V) (d : decode cL_law pc = .ok (.iinc 8 n, 3)) (k : lw_G V W0 cells slots (pc + 3) (o0 :: o1 :: o2 :: o3 :: o4 :: o5 :: o6 :: o7 :: some (.int (nI (a + v))) :: T) st) (hc : gl_pc (o0 :: o1 :: o2 :: o3 :: o4 :: o5 :: o6 :: o7 :: some (.int (nI a)) :: T) 8 = true := by with_unfolding_all rfl) : lw_G V W0 cells slots pc (o0 :: o1 :: o2 :: o3 :: o4 :: o5 :: o6 :: o7 :: some (.int (nI a)) :: T) st := by
  obtain ⟨K, p, e, s, m, b, N, xs, below, meth, c⟩ := V
  obtain ⟨hx, hb, hml, hown, hts, hK, hAO, hNw, hX, hbl, hLL, hlk, hr⟩ := C
  intro H locs ls hP hD hS hl
  obtain ⟨kk, hkk⟩ := List.mem_iff_getElem?.mp (gl_al_mem (i := 8).mpr (show (o0 :: o1 :: o2 :: o3 :: o4 :: o5 :: o6 :: o7 :: some (Value.int (nI a)) :: T)[8]? = some (some (.int (nI a))) from rfl))
  exact lv_iinc hx hb d (gl_L_has hl) hkk (by rw [hn]; exact nI_add a v) (show 8 < 10 by omega) rfl (fun ls' h' => k H locs ls' hP hD hS (gl_L_set (i := 8) hl rfl h' hc))
theorem lw_iload_9 {o0 o1 o2 o3 o4 o5 o6 o7 o8 : Option Value} {T : List (Option Value)} {x : Int32} (C : lw_C V) (d : decode cL_law pc = .ok (.iload 9, 2)) (k : lw_G V W0 cells slots (pc + 2) (o0 :: o1 :: o2 :: o3 :: o4 :: o5 :: o6 :: o7 :: o8 :: some (.int x) :: T) (.int x :: st)) : lw_G V W0 cells slots pc (o0 :: o1 :: o2 :: o3 :: o4 :: o5 :: o6 :: o7 :: o8 :: some (.int x) :: T) st := by
  obtain ⟨K, p, e, s, m, b, N, xs, below, meth, c⟩ := V
  obtain ⟨hx, hb, hml, hown, hts, hK, hAO, hNw, hX, hbl, hLL, hlk, hr⟩ := C
  intro H locs ls hP hD hS hl
  exact lv_iload hx hb d (gl_L_at hl (i := 9) rfl) (k H locs ls hP hD hS hl)
theorem lw_istore_9 {o0 o1 o2 o3 o4 o5 o6 o7 o8 : Option Value} {o : Option Value} {T : List (Option Value)} {x : Int32} (C : lw_C V) (d : decode cL_law pc = .ok (.istore 9, 2)) (k : lw_G V W0 cells slots (pc + 2) (o0 :: o1 :: o2 :: o3 :: o4 :: o5 :: o6 :: o7 :: o8 :: some (.int x) :: T) st) (hc : gl_pc (o0 :: o1 :: o2 :: o3 :: o4 :: o5 :: o6 :: o7 :: o8 :: o :: T) 9 = true := by with_unfolding_all rfl) : lw_G V W0 cells slots pc (o0 :: o1 :: o2 :: o3 :: o4 :: o5 :: o6 :: o7 :: o8 :: o :: T) (.int x :: st) := by
  obtain ⟨K, p, e, s, m, b, N, xs, below, meth, c⟩ := V
  obtain ⟨hx, hb, hml, hown, hts, hK, hAO, hNw, hX, hbl, hLL, hlk, hr⟩ := C
  intro H locs ls hP hD hS hl
  exact lv_istore hx hb d (gl_L_has hl) (show 9 < 10 by omega) rfl (fun ls' h' => k H locs ls' hP hD hS (gl_L_set (i := 9) hl rfl h' hc))
theorem lw_iincN_9 {o0 o1 o2 o3 o4 o5 o6 o7 o8 : Option Value} {T : List (Option Value)} {a v : Nat} {n : Int} (hn : Int32.ofInt n = nI v) (C : lw_C V) (d : decode cL_law pc = .ok (.iinc 9 n, 3)) (k : lw_G V W0 cells slots (pc + 3) (o0 :: o1 :: o2 :: o3 :: o4 :: o5 :: o6 :: o7 :: o8 :: some (.int (nI (a + v))) :: T) st) (hc : gl_pc (o0 :: o1 :: o2 :: o3 :: o4 :: o5 :: o6 :: o7 :: o8 :: some (.int (nI a)) :: T) 9 = true := by with_unfolding_all rfl) : lw_G V W0 cells slots pc (o0 :: o1 :: o2 :: o3 :: o4 :: o5 :: o6 :: o7 :: o8 :: some (.int (nI a)) :: T) st := by
  obtain ⟨K, p, e, s, m, b, N, xs, below, meth, c⟩ := V
  obtain ⟨hx, hb, hml, hown, hts, hK, hAO, hNw, hX, hbl, hLL, hlk, hr⟩ := C
  intro H locs ls hP hD hS hl
  obtain ⟨kk, hkk⟩ := List.mem_iff_getElem?.mp (gl_al_mem (i := 9).mpr (show (o0 :: o1 :: o2 :: o3 :: o4 :: o5 :: o6 :: o7 :: o8 :: some (Value.int (nI a)) :: T)[9]? = some (some (.int (nI a))) from rfl))
  exact lv_iinc hx hb d (gl_L_has hl) hkk (by rw [hn]; exact nI_add a v) (show 9 < 10 by omega) rfl (fun ls' h' => k H locs ls' hP hD hS (gl_L_set (i := 9) hl rfl h' hc))
theorem lw_newa {n : Nat} (C : lw_C V) (d : decode cL_law pc = .ok (.newarray .int, 2)) (h1 : Cond.arrayClass .int ∈ wsL_law) (hn : n < 100000) (hc : cells + 1 ≤ room_1.cells) (hs : slots + n ≤ room_1.slots)
    (k : ∀ q, lw_G V (W0 ++ [(q, .inl (V.1.2.2.1, n, .inl (fun _ => 0)))]) (cells + 1) (slots + n) (pc + 2) L (.ref q :: st)) : lw_G V W0 cells slots pc L (.int (nI n) :: st) := by
  obtain ⟨K, p, e, s, m, b, N, xs, below, meth, c⟩ := V
  obtain ⟨hx, hb, hml, hown, hts, hK, hAO, hNw, hX, hbl, hLL, hlk, hr⟩ := C
  intro H locs ls hP hD hS hl
  refine va_newa (atype := .int) (ty := .int) (N' := n) (a0 := (n, .inl (fun _ => 0))) hx hb (hts _ h1) rfl hK hP hD hS (fun q hq => hq) (fun cA => rfl) (nI_pos (by omega)) (nI_clamp (by omega)) (by simp only [componentBytes]; omega) hc hs d (fun q cA H1 hK1 hP1 hD1 hS1 => ?_)
  have e1 := (hK1.2 3 (cA, .int) rfl).2
  have e0 := (hK.2 0 (K.2.2.1, .int) rfl).2
  have e : cA = K.2.2.1 := Option.some.inj (e1.symm.trans e0)
  subst e
  exact k q H1 locs ls hP1 hD1 hS1 hl
theorem lw_newl {n : Nat} (C : lw_C V) (d : decode cL_law pc = .ok (.newarray .long, 2)) (h1 : Cond.arrayClass .long ∈ wsL_law) (hn : n < 100000) (hc : cells + 1 ≤ room_1.cells) (hs : slots + n ≤ room_1.slots)
    (k : ∀ q, lw_G V (W0 ++ [(q, .inl (V.1.2.2.2.2, n, .inr (.inl (fun _ => 0))))]) (cells + 1) (slots + n) (pc + 2) L (.ref q :: st)) : lw_G V W0 cells slots pc L (.int (nI n) :: st) := by
  obtain ⟨K, p, e, s, m, b, N, xs, below, meth, c⟩ := V
  obtain ⟨hx, hb, hml, hown, hts, hK, hAO, hNw, hX, hbl, hLL, hlk, hr⟩ := C
  intro H locs ls hP hD hS hl
  refine va_newa (atype := .long) (ty := .long) (N' := n) (a0 := (n, .inr (.inl (fun _ => 0)))) hx hb (hts _ h1) rfl hK hP hD hS (fun q hq => hq) (fun cA => rfl) (nI_pos (by omega)) (nI_clamp (by omega)) (by simp only [componentBytes]; omega) hc hs d (fun q cA H1 hK1 hP1 hD1 hS1 => ?_)
  have e1 := (hK1.2 3 (cA, .long) rfl).2
  have e0 := (hK.2 2 (K.2.2.2.2, .long) rfl).2
  have e : cA = K.2.2.2.2 := Option.some.inj (e1.symm.trans e0)
  subst e
  exact k q H1 locs ls hP1 hD1 hS1 hl
theorem lw_inj {K : gk_K} {r : Nat → Nat} {lay : List gl_Ce} {M : Nat → Int32} {A : Nat → Prop} (hD : va_D A (gl_w (gk_F K r) lay M)) : gl_inj (gk_F K r) lay := fun i j hi hj hij => hD.1 i j _ _ (gl_w_at (List.getElem?_eq_getElem hi)) (gl_w_at (List.getElem?_eq_getElem hj)) hij
theorem lw_iast {r : Nat → Nat} {lay : List gl_Ce} {M : Nat → Int32} {j n : Nat} {f : Nat → Nat} {i x : Int32} (k : Nat) (C : lw_C V) (hok : gl_ok lay) (d : decode cL_law pc = .ok (.iastore, 1)) (hj : lay[j]? = some (.inl (n, f))) (hi : i = nI k) (hk : k < n)
    (h : lw_G V (gl_w (gk_F V.1 r) lay (upd M (f k) x)) cells slots (pc + 1) L st) : lw_G V (gl_w (gk_F V.1 r) lay M) cells slots pc L (.int x :: .int i :: .ref (r j) :: st) := by
  obtain ⟨K, p, e, s, m, b, N, xs, below, meth, c⟩ := V
  obtain ⟨hx, hb, hml, hown, hts, hK, hAO, hNw, hX, hbl, hLL, hlk, hr⟩ := C
  intro H locs ls hP hD hS hl
  have hn : n < 2 ^ 31 := hok.2 j _ hj
  subst hi
  have h1 := nI_clamp (n := k) (by omega)
  refine va_iast (D := K.2.1) hx hb hK hP hD hS j 0 (gl_w_at (F := gk_F K r) hj) rfl (vp_in_nI hk hn) d (fun H1 locs1 hP1 hD1 hS1 => ?_)
  rw [h1] at hP1 hD1
  have e := gl_set_arr (F := gk_F K r) (M := M) hok hj hk x
  exact h H1 locs1 ls (e ▸ hP1) (e ▸ hD1) hS1 hl
theorem lw_goon {K : gk_K} {p : Program} {e : Env} {s : State} {m : MethodId} {b N : Nat} {xs : Nat → Int32} {below : List Frame} {meth : Method} {c : Code} {r : Nat → Nat} {lay : List gl_Ce} {M M1 : Nat → Int32} {ov1 : Option Value} {a : Array Value} {st0 : List Value} {H : Heap} {locs : List Loc} {ls : Array Slot}
    (hr : va_Run p K.1 e room_1 s m #[Value.ref b] below meth c H locs cells slots 0 0 (F0 m pc ls st0) rest (gl_Q (gk_F K r) lay ov1 M1 a) (gl_A (gk_F K r) lay)) (hD : va_D (lw_A s.heap.size) (gl_w (gk_F K r) lay M)) (hS : va_S (lw_A s.heap.size) s.heap H locs) (hl : gl_L 10 ls L)
    (k : lw_G (K, p, e, s, m, b, N, xs, below, meth, c) (gl_w (gk_F K r) lay M1) cells slots (pc + 3) L (ov1.toList ++ rest)) : W p K.1 e room_1 s m #[Value.ref b] below meth c H locs cells slots (lw_Z below #[Value.ref b] s) (F0 m pc ls st0) := by
  intro T hT X
  obtain ⟨v, st₀, t, T', L2, h0, X', hL, e1, e2, ⟨hv, hp, hz, hk⟩, st⟩ := hr T hT X
  cases hv
  rw [h0] at hz hk
  have hAA : ∀ q, gl_A (gk_F K r) lay q → lw_A s.heap.size q := fun q ⟨j, hj, hq⟩ => by subst hq; exact hD.2 j _ (gl_w_at (List.getElem?_eq_getElem hj))
  have hI := lw_inj hD
  have hD1 : va_D (lw_A s.heap.size) (gl_w (gk_F K r) lay M1) := ⟨(gl_w_D hI).1, fun j q hj => hAA _ ((gl_w_D hI).2 j q hj)⟩
  obtain ⟨t2, a1, b1⟩ := k T'.heap (locs ++ L2) ls (by rw [e1]; exact hp) hD1 ⟨Nat.le_trans hS.1 (by rw [e1]; exact hz), fun q h1 h2 => by rw [e1, hk q (Nat.lt_of_lt_of_le h1 hS.1) (fun h => h2 (hAA q h))]; exact hS.2.1 q h1 h2, fun q hq => by
      rcases List.mem_append.mp hq with h | h
      · exact hS.2.2 q h
      · exact hAA _ (hL q h)⟩ hl T' rfl X'
  exact ⟨t2, st t2 a1, b1⟩
theorem lw_callS {r : Nat → Nat} {lay : List gl_Ce} {M M1 : Nat → Int32} {index n maxL : Nat} {y : MethodName} {wsc wsc' : List Cond} {bytes : ByteArray} {retc : Option FieldType} {rmc : Room} {As : List Value} {v : Int32}
    (ct : gl_Ct (gk_F V.1 r) lay y wsc rmc As M (some (.int v)) M1) (C : lw_C V) (d : decode cL_law pc = .ok (.invokestatic index, 3)) (g : GoodIn wsL_law (va_wsS RL index y wsc)) (hw : wsc = Cond.code y bytes maxL retc :: wsc') (hd : gl_hd y y.cls n)
    (hrm : rmc.cells = 0 ∧ rmc.slots = 0 ∧ rmc.frames + 1 ≤ room_1.frames ∧ 8 + (maxL + 11) + rmc.locals ≤ room_1.locals) (hn : As.length = n) (hrest : (rest.map fun v => v.category).sum ≤ 8) (hst : st = As.reverse ++ rest) (hf : cells ≤ room_1.cells ∧ slots ≤ room_1.slots)
    (k : lw_G V (gl_w (gk_F V.1 r) lay M1) cells slots (pc + 3) L (.int v :: rest)) : lw_G V (gl_w (gk_F V.1 r) lay M) cells slots pc L st := by
  obtain ⟨K, p, e, s, m, b, N, xs, below, meth, c⟩ := V
  obtain ⟨hx, hb, hml, hown, hts, hK, hAO, hNw, hX, hbl, hLL, hlk, hr⟩ := C
  intro H locs ls hP hD hS hl
  subst hst
  exact lw_goon (va_runS (As := As) (rest := rest) ⟨hx, hb, hml, hown, hts⟩ ct (va_cwS n hts g hw hrm.1 hrm.2.1 hd.2 hrm.2.2) ⟨gl_blind, fun U hU hW => ⟨rfl, by rw [hU]; exact hP, va_K.moved hW.alike hK, lw_inj hD⟩⟩ rfl hn hl.1 rfl (lv_room hrest) d hf) hD hS hl k
theorem lw_callV {r : Nat → Nat} {lay : List gl_Ce} {M M1 : Nat → Int32} {index j ci n maxL N : Nat} {T : u_T} {fs : List (Nat ⊕ Nat)} {Cl : String} {y : MethodName} {wsc wsc' : List Cond} {bytes : ByteArray} {retc : Option FieldType} {rmc : Room} {As : List Value} {v : Int32}
    (ct : gl_Ct (gk_F V.1 r) lay y wsc rmc (.ref (r j) :: As) M (some (.int v)) M1) (C : lw_C V) (d : decode cL_law pc = .ok (.invokevirtual index, 3)) (g : GoodIn wsL_law (wsV RL index Cl y wsc)) (hw : wsc = Cond.code y bytes maxL retc :: wsc') (hd : gl_hd y Cl n)
    (hrm : rmc.cells = 0 ∧ rmc.slots = 0 ∧ rmc.frames + 1 ≤ room_1.frames ∧ 8 + (maxL + 11) + rmc.locals ≤ room_1.locals) (hn : As.length = n) (hrest : (rest.map fun v => v.category).sum ≤ 8) (hst : st = As.reverse ++ .ref (r j) :: rest)
    (hj : lay[j]? = some (.inr (.inl (ci, fs)))) (hci : vwCl[ci]? = some (Cl, T, N)) (hf : cells ≤ room_1.cells ∧ slots ≤ room_1.slots)
    (k : lw_G V (gl_w (gk_F V.1 r) lay M1) cells slots (pc + 3) L (.int v :: rest)) : lw_G V (gl_w (gk_F V.1 r) lay M) cells slots pc L st := by
  obtain ⟨K, p, e, s, m, b, N, xs, below, meth, c⟩ := V
  obtain ⟨hx, hb, hml, hown, hts, hK, hAO, hNw, hX, hbl, hLL, hlk, hr⟩ := C
  intro H locs ls hP hD hS hl
  subst hst
  exact lw_goon (va_runV (As := As) (rest := rest) ⟨hx, hb, hml, hown, hts⟩ ct (cwV n hts g hw hrm.1 hrm.2.1 hd hrm.2.2) ⟨gl_blind, va_recv hK hP hci (gl_w_at (F := gk_F K r) hj), fun U hU hW => ⟨rfl, by rw [hU]; exact hP, va_K.moved hW.alike hK, lw_inj hD⟩⟩ rfl hn hl.1 rfl (lv_room hrest) d hf) hD hS hl k
/-! a word of the script -/
def cl_Pc (b N : Nat) (xs : Nat → Int32) (x : Int32) : Array Value → State → Prop := va_Pc [.ref b, .int x] (fun U => va_X b N xs U U.heap ∧ b < U.heap.size)
def cl_Q : Array Value → State → Outcome → State → Prop := fun _ st o t => (∃ v, o = .returned (some (.int v))) ∧ va_F (fun _ => False) st t
theorem ctL_cell {l : Launch} {b N i : Nat} {xs : Nat → Int32} (hN : N < 2 ^ 31) (hi : i < 2 ^ 31) : Met l yL_cell wsL_cell rmL_cell (cl_Pc b N xs (nI i)) cl_Q 0 0 (fun _ => False) := by
  refine gl_ofW (cc := cL_cell) (maxL := 2) (ret := some .int) (plainFor_of_name (by decide)) rfl ?_
  intro p e s m args below meth c s₁ B hml hv
  obtain ⟨rfl, hX, hbl⟩ := hv
  have hts := atoms_spec (ws := wsL_cell) B.pre
  have hown : s.vm.findClass RL = some m.cls := findClass_of_methodNamed B.named
  have hav : ∀ v ∈ [Value.ref b, Value.int (nI i)], v.category = 1 := by intro v hv; simp at hv; rcases hv with rfl | rfl <;> rfl
  have hl := lv_entry [.ref b, .int (nI i)] (n := 2) (by rw [gl_sl_len _ hav]; exact Nat.le_refl _)
  rw [lg_entry_eq]
  generalize (lg_sl [Value.ref b, Value.int (nI i)] ++ List.replicate (2 - (lg_sl [Value.ref b, Value.int (nI i)]).length) Slot.unset).toArray = ls at hl ⊢
  have hL : gl_L 2 ls [some (.ref b), some (.int (nI i))] := by
    refine ⟨hl.1, hl.2.1, rfl, fun j v hj => ?_⟩
    rcases j with _ | _ | j
    · simp only [List.getElem?_cons_zero, Option.some.injEq] at hj
      subst hj
      exact hl.2.2 (0, .ref b) (by simp [lv_args])
    · simp only [List.getElem?_cons_succ, List.getElem?_cons_zero, Option.some.injEq] at hj
      subst hj
      exact hl.2.2 (1, .int (nI i)) (by simp [lv_args, Value.category])
    · simp at hj
  have hS0 : va_S (fun _ : Nat => False) s.heap s.heap [] := va_S.rf
  refine lv_iload_n B.exec B.bytes dL_cell_0 rfl (gl_L_at hL (i := 1) rfl) ?_
  refine lv_aload_n B.exec B.bytes dL_cell_1 rfl (gl_L_at hL (i := 0) rfl) ?_
  refine va_slen (A := fun _ => False) B.exec B.bytes hX hbl (fun h => h) va_S.rf dL_cell_2 ?_
  refine lv_icmp_ge (tgt := 12) B.exec B.bytes dL_cell_3 (by decide) (fun h => ?_) (fun h => ?_)
  · refine lv_ldc (v := 40503) B.exec B.bytes hown (hts (Cond.constant RL 7 40503) (by decide +kernel)) dL_cell_12 ?_
    refine lv_iload_n B.exec B.bytes dL_cell_14 rfl (gl_L_at hL (i := 1) rfl) ?_
    refine lv_iconst (v := 3) B.exec B.bytes dL_cell_15 (by decide) ?_
    refine lv_iadd B.exec B.bytes dL_cell_16 ?_
    refine lv_imul B.exec B.bytes dL_cell_17 ?_
    exact W.iret B.exec B.bytes B.returns (fun t ht hW => ⟨⟨_, rfl⟩, hS0.F ht⟩) hS0.2.2 dL_cell_18 B.notSynchronized
  · have hi2 : i < N := by
      have h2 : ¬ nI N ≤ nI i := h
      rw [nI_leI hN hi] at h2
      omega
    refine lv_aload_n B.exec B.bytes dL_cell_6 rfl (gl_L_at hL (i := 0) rfl) ?_
    refine lv_iload_n B.exec B.bytes dL_cell_7 rfl (gl_L_at hL (i := 1) rfl) ?_
    refine va_sld (A := fun _ => False) B.exec B.bytes hX hbl (fun h => h) va_S.rf (vp_in_nI hi2 hN) dL_cell_8 ?_
    refine lv_goto (tgt := 18) B.exec B.bytes dL_cell_9 (by decide) ?_
    exact W.iret B.exec B.bytes B.returns (fun t ht hW => ⟨⟨_, rfl⟩, hS0.F ht⟩) hS0.2.2 dL_cell_18 B.notSynchronized
theorem cl_blind {b N : Nat} {xs : Nat → Int32} {x : Int32} : FrameBlind (cl_Pc b N xs x) := fun a U g mk q => ⟨q.1, va_X.moved (u := U) (U := U.calling g mk a) (Vm.Alike.refl U.vm) q.2.1, q.2.2⟩
theorem lw_cell {i : Nat} (hi : i < 2 ^ 31) (C : lw_C V) (d : decode cL_law pc = .ok (.invokestatic 130, 3)) (hrest : (rest.map fun v => v.category).sum ≤ 8) (hf : cells ≤ room_1.cells ∧ slots ≤ room_1.slots)
    (k : ∀ v, lw_G V W0 cells slots (pc + 3) L (.int v :: rest)) : lw_G V W0 cells slots pc L (.int (nI i) :: .ref (lw_b V) :: rest) := by
  obtain ⟨K, p, e, s, m, b, N, xs, below, meth, c⟩ := V
  obtain ⟨hx, hb, hml, hown, hts, hK, hAO, hNw, hX, hbl, hLL, hlk, hr⟩ := C
  intro H locs ls hP hD hS hl
  have hbH : H[b]? = s.heap[b]? := hS.2.1 b hbl (fun h => by unfold lw_A at h; omega)
  have hX1 : va_X b N xs s H := hX.kept hbH
  have hrun := va_runS (p := p) (e := e) (below := below) (meth := meth) (H := H) (locs := locs) (cells := cells) (slots := slots) (g := F0 m pc ls (.int (nI i) :: .ref b :: rest)) (As := [.ref b, .int (nI i)]) (rest := rest) ⟨hx, hb, hml, hown, hts⟩ (ctL_cell (l := K.1) (b := b) (N := N) (i := i) (xs := xs) (by omega) hi) (va_cwS 2 hts gL_law_L_cell rfl rfl rfl hdL_cell.2 ⟨Nat.le_of_ble_eq_true rfl, Nat.le_of_ble_eq_true rfl⟩) ⟨cl_blind, fun U hU hW => ⟨rfl, by rw [hU]; exact va_X.moved hW.alike hX1, by rw [hU]; exact Nat.lt_of_lt_of_le hbl hS.1⟩⟩ rfl rfl hl.1 rfl (lv_room hrest) d hf
  intro T hT X
  obtain ⟨v, st₀, t, T', L2, h0, X', hL, e1, e2, ⟨⟨w, hv⟩, hz, hk⟩, st⟩ := hrun T hT X
  cases hv
  rw [h0] at hz hk
  obtain ⟨t2, a1, b1⟩ := k w T'.heap (locs ++ L2) ls (fun j q hj => by rw [e1]; exact (hP j q hj).kept (hk _ (hP j q hj).lt (fun h => h))) hD ⟨Nat.le_trans hS.1 (by rw [e1]; exact hz), fun q h1 h2 => by rw [e1, hk q (Nat.lt_of_lt_of_le h1 hS.1) (fun h => h)]; exact hS.2.1 q h1 h2, fun q hq => by
      rcases List.mem_append.mp hq with h | h
      · exact hS.2.2 q h
      · exact absurd (hL q h) (fun h => h)⟩ hl T' rfl X'
  exact ⟨t2, st t2 a1, b1⟩
theorem lw_fin (C : lw_C V) (hc : cells ≤ 600000) (hs : slots ≤ 7302250) : lw_G V W0 cells slots 255 L [.int 1] := by
  obtain ⟨K, p, e, s, m, b, N, xs, below, meth, c⟩ := V
  obtain ⟨hx, hb, hml, hown, hts, hK, hAO, hNw, hX, hbl, hLL, hlk, hr⟩ := C
  intro H locs ls hP hD hS hl
  refine va_forget (fun q hq => hS.2.2 q hq) ?_
  refine W.widen hc hs ?_
  exact lw_ret hx hb hr hlk dL_law_255
end LWR
