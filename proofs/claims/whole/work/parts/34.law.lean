/-! ===== the law's own body: two worlds side by side ===== -/
abbrev lw_V : Type := gk_K × Program × Env × State × MethodId × Nat × Nat × (Nat → Int32) × List Frame × Method × Code
def lw_b (V : lw_V) : Nat := V.2.2.2.2.2.1
def lw_n (V : lw_V) : Nat := V.2.2.2.2.2.2.1
def lw_x (V : lw_V) : Nat → Int32 := V.2.2.2.2.2.2.2.1
def lw_C : lw_V → Prop
  | (K, p, e, s, m, b, LL, xs, below, meth, c) => p.tables.exec = Jvm.exec ∧ c.code = cL_law ∧ c.maxLocals = 4 ∧ s.vm.findClass RL = some m.cls ∧ (∀ w ∈ wsL_law, w.before #[Value.ref b] s = true) ∧ va_K K.2.1 vwCl (gk_tys K) s ∧ va_AO "GoalLifts$House" s ∧ gk_Nw s ∧ va_X b LL xs s s.heap ∧ b < s.heap.size ∧ LL ≤ 2048 ∧ meth.locks = false ∧ meth.sig.returnType = ret
def lw_A (sz : Nat) : Nat → Prop := fun q => sz ≤ q
def lw_G : lw_V → va_W → Nat → Nat → Nat → List (Option Value) → List Value → Prop
  | (K, p, e, s, m, b, LL, xs, below, meth, c), W0, cells, slots, pc, L, st => ∀ (H : Heap) (locs : List Loc) (ls : Array Slot), va_P K.2.1 vwCl W0 H → va_D (lw_A s.heap.size) W0 → va_S (lw_A s.heap.size) s.heap H locs → gl_L 4 ls L → W p K.1 e room_1 s m #[Value.ref b] below meth c H locs cells slots (lw_Z below #[Value.ref b] s) (F0 m pc ls st)
theorem lw_rgA {α : Type} {A B : List α} : (List.range A.length).map (fun i => (A ++ B)[i]?) = A.map some := by
  apply List.ext_getElem?
  intro i
  rw [List.getElem?_map, List.getElem?_map]
  by_cases hi : i < A.length
  · rw [List.getElem?_range hi, List.getElem?_eq_getElem hi]
    simp [List.getElem?_append_left hi, List.getElem?_eq_getElem hi]
  · rw [List.getElem?_eq_none (by simp; omega), List.getElem?_eq_none (by omega)]
    rfl
theorem lw_rgB {α : Type} {A B : List α} : ((List.range B.length).map (fun i => A.length + i)).map (fun i => (A ++ B)[i]?) = B.map some := by
  apply List.ext_getElem?
  intro i
  rw [List.getElem?_map, List.getElem?_map, List.getElem?_map]
  by_cases hi : i < B.length
  · rw [List.getElem?_range hi, List.getElem?_eq_getElem hi]
    simp [List.getElem?_append_right, List.getElem?_eq_getElem hi]
  · rw [List.getElem?_eq_none (by simp; omega), List.getElem?_eq_none (by omega)]
    rfl
theorem lw_nd : ∀ (l : List Nat), (∀ i j a : Nat, l[i]? = some a → l[j]? = some a → i = j) → va_nd l = true
  | [], _ => rfl
  | x :: l, h => by
    simp only [va_nd, Bool.and_eq_true, decide_eq_true_eq]
    refine ⟨fun hx => ?_, lw_nd l (fun i j a hi hj => Nat.succ.inj (h (i + 1) (j + 1) a hi hj))⟩
    obtain ⟨j, hj⟩ := List.mem_iff_getElem?.mp hx
    have := h 0 (j + 1) x rfl hj
    omega
theorem lw_ndB {n k : Nat} : va_nd ((List.range n).map (fun i => k + i)) = true := by
  refine lw_nd _ (fun i j a hi hj => ?_)
  rw [List.getElem?_map] at hi hj
  cases h1 : (List.range n)[i]? with
  | none => rw [h1] at hi; cases hi
  | some x =>
    cases h2 : (List.range n)[j]? with
    | none => rw [h2] at hj; cases hj
    | some y =>
      rw [h1] at hi
      rw [h2] at hj
      simp only [Option.map_some, Option.some.injEq] at hi hj
      obtain ⟨h3, e1⟩ := List.getElem?_eq_some_iff.mp h1
      obtain ⟨h4, e2⟩ := List.getElem?_eq_some_iff.mp h2
      simp at e1 e2
      omega
section LWR
variable {V : lw_V} {W0 W1 : va_W} {cells slots pc : Nat} {L L1 : List (Option Value)} {st rest : List Value}
theorem lw_ws (hW : W0 = W1) (h : lw_G V W1 cells slots pc L st) : lw_G V W0 cells slots pc L st := by rw [hW]; exact h
theorem lw_new {index ci N : Nat} {Cl : String} {T : u_T} {fs : List Value} (ty : Nat → FieldType) (C : lw_C V) (d : decode cL_law pc = .ok (.new index, 3)) (hci : vwCl[ci]? = some (Cl, T, N)) (hin0 : ∀ w ∈ u_ws Cl T N, w ∈ wsL_law) (hty : ∀ k, k < N → parseFieldDescriptor (T k).2.2.1 = some (ty k)) (h1 : Cond.classLink RL index Cl ∈ wsL_law) (h2 : Cond.instantiable Cl N ∈ wsL_law) (h3 : Cond.initialized Cl ∈ wsL_law)
    (hfs : ∀ j, j < N → defaultValue (ty j) = vp_V fs j) (hc : cells + 1 ≤ 600000) (hs : slots + N ≤ 7302250)
    (k : ∀ q, lw_G V (W0 ++ [(q, .inr (ci, fs))]) (cells + 1) (slots + N) (pc + 3) L (.ref q :: st)) : lw_G V W0 cells slots pc L st := by
  obtain ⟨K, p, e, s, m, b, LL, xs, below, meth, c⟩ := V
  obtain ⟨hx, hb, hml, hown, hts, hK, hAO, hNw, hX, hbl, hLL, hlk, hr⟩ := C
  intro H locs ls hP hD hS hl
  exact va_new (ci := ci) (fs := fs) hx hb hts hin0 ty hty hown (hts _ h1) (hts _ h2) (hts _ h3) hK hP hD hS (fun q hq => hq) hci hfs hc hs d (fun q H1 hP1 hD1 hS1 => k q H1 locs ls hP1 hD1 hS1 hl)
/-- a constructor called on the object made last -/
theorem lw_init {index ci maxL a mc1 ms1 : Nat} {fs : List Value} {y : MethodName} {wsc wsc' : List Cond} {bytes : ByteArray} {rmc : Room} {layc : List gl_Ce} {Mc : Nat → Int32} {A : va_W}
    (ct : gk_Kt V.1 y wsc rmc ci fs layc Mc mc1 ms1) (C : lw_C V) (d : decode cL_law pc = .ok (.invokespecial index, 3)) (g : GoodIn wsL_law wsc) (hw : wsc = Cond.code y bytes maxL none :: wsc') (h1 : Cond.initialized y.cls ∈ wsL_law) (h2 : Cond.methodLink RL index y ∈ wsL_law) (h3 : Cond.instanceMethod y ∈ wsL_law) (hy : y.name = "<init>")
    (hd : y.cls ≠ "java/lang/invoke/MethodHandle" ∧ y.cls ≠ "java/lang/invoke/VarHandle" ∧ (parseMethodDescriptor y.desc).map (fun d => d.parameters.length) = some 0) (hrm : rmc.cells = mc1 ∧ rmc.slots = ms1 ∧ rmc.frames + 1 ≤ room_1.frames ∧ 8 + (maxL + 11) + rmc.locals ≤ room_1.locals)
    (hf : cells + mc1 ≤ room_1.cells ∧ slots + ms1 ≤ room_1.slots) (hrest : (st.map fun v => v.category).sum ≤ 8)
    (k : ∀ r : Nat → Nat, r 0 = a → lw_G V (A ++ gl_w (gk_F V.1 r) layc Mc) (cells + mc1) (slots + ms1) (pc + 3) L st) : lw_G V (A ++ [(a, .inr (ci, fs))]) cells slots pc L (.ref a :: st) := by
  obtain ⟨K, p, e, s, m, b, LL, xs, below, meth, c⟩ := V
  obtain ⟨hx, hb, hml, hown, hts, hK, hAO, hNw, hX, hbl, hLL, hlk, hr⟩ := C
  intro H locs ls hP hD hS hl
  have hq : (A ++ [(a, (Sum.inr (ci, fs) : va_E))])[A.length]? = some (a, .inr (ci, fs)) := gk_last rfl
  have hPc : va_P K.2.1 vwCl [(a, .inr (ci, fs))] H := fun j q hj => by
    have h := (List.getElem?_eq_some_iff.mp hj).1
    simp at h
    subst h
    simp at hj
    subst hj
    exact hP _ _ hq
  have hcw := cwI (R := room_1) 0 hts g hw hrm.1 hrm.2.1 (hts _ h1) (hts _ h2) (hts _ h3) hy hd hrm.2.2
  have hsub : ∀ q, gk_A a H.size q → lw_A s.heap.size q := by
    intro q hq'
    rcases hq' with h | h
    · rw [h]; exact hD.2 _ _ hq
    · exact Nat.le_trans hS.1 h
  have hrun : va_Run p K.1 e room_1 s m #[Value.ref b] below meth c H locs cells slots mc1 ms1 (F0 m pc ls (.ref a :: st)) st (gk_Q K a H.size layc Mc (Value.ref a :: ([] : List Value)).toArray) (gk_A a H.size) := va_runI (g := F0 m pc ls (.ref a :: st)) (As := []) (rest := st) ⟨hx, hb, hml, hown, hts⟩ (ct a H.size) hcw ⟨fun a' U g mk q => ⟨q.1, q.2.1, q.2.2.1, va_K.moved (u := U) (U := U.calling g mk a') (Vm.Alike.refl U.vm) q.2.2.2.1, va_AO.moved (u := U) (U := U.calling g mk a') (Vm.Alike.refl U.vm) q.2.2.2.2.1, gk_Nw.same (u := U) (U := U.calling g mk a') rfl q.2.2.2.2.2⟩, fun U hU hW => ⟨rfl, by rw [hU], by rw [hU]; exact hPc, va_K.moved hW.alike hK, va_AO.moved hW.alike hAO, gk_Nw.warm hW hNw⟩⟩ rfl rfl hl.1 rfl (lv_room hrest) d hf
  intro T hT X
  obtain ⟨v, st₀, t, T', L2, e0, X', hL, e1, e2, ⟨hv, ⟨r, r1, r2, r3, r4⟩, hz, hk⟩, stp⟩ := hrun T hT X
  cases hv
  rw [e0] at hz hk
  have hP1 : va_P K.2.1 vwCl (gl_w (gk_F K r) layc Mc) T'.heap := by rw [e1]; exact r4
  have hAa : ∀ q, va_A [(a, (Sum.inr (ci, fs) : va_E))] H.size q ↔ gk_A a H.size q := by
    intro q
    constructor
    · rintro (⟨j, e', hj⟩ | h)
      · have h := (List.getElem?_eq_some_iff.mp hj).1
        simp at h
        subst h
        simp at hj
        exact Or.inl hj.1.symm
      · exact Or.inr h
    · rintro (h | h)
      · exact Or.inl ⟨0, .inr (ci, fs), by rw [h]; rfl⟩
      · exact Or.inr h
  have hD1 : va_D (va_A [(a, (Sum.inr (ci, fs) : va_E))] H.size) (gl_w (gk_F K r) layc Mc) := by
    refine ⟨(gl_w_D r3).1, fun j q hj => ?_⟩
    obtain ⟨cc', h1', rfl⟩ := gl_w_inv hj
    refine (hAa _).mpr ?_
    by_cases hj0 : j = 0
    · subst hj0; exact Or.inl r1
    · exact Or.inr (r2 j (by omega) (List.getElem?_eq_some_iff.mp h1').1)
  obtain ⟨hP2, hD2⟩ := va_join (wr := A) (w1 := gl_w (gk_F K r) layc Mc) (wc := [(a, .inr (ci, fs))]) hP hD [A.length] (List.range A.length) (by simp) lw_rgA (by have := lw_ndB (n := A.length) (k := 0); simpa using this) (fun i hi => by have := List.mem_range.mp hi; simp; omega) (fun q h1' h2' => by rw [e1]; exact hk q h1' (fun h => h2' ((hAa q).mpr h))) (fun q h => hsub q ((hAa q).mp h)) hP1 hD1
  obtain ⟨t2, a1, b1⟩ := k r r1 T'.heap (locs ++ L2) ls hP2 hD2 ⟨Nat.le_trans hS.1 (by rw [e1]; exact hz), fun q h1' h2' => by rw [e1, hk q (Nat.lt_of_lt_of_le h1' hS.1) (fun h => h2' (hsub q h))]; exact hS.2.1 q h1' h2', fun q hq' => by
      rcases List.mem_append.mp hq' with h | h
      · exact hS.2.2 q h
      · exact hsub _ (hL q h)⟩ hl T' rfl X'
  exact ⟨t2, stp t2 a1, b1⟩
/-- a method called on the first of two worlds: it goes behind the other one -/
theorem lw_call {index j ci n maxL N : Nat} {T : u_T} {fs : List (Nat ⊕ Nat)} {Cl : String} {y : MethodName} {wsc wsc' : List Cond} {bytes : ByteArray} {retc : Option FieldType} {rmc : Room} {As : List Value} {v : Int32} {r : Nat → Nat} {l1 : List gl_Ce} {M1 M1' : Nat → Int32} {B : va_W}
    (ct : gl_Ct (gk_F V.1 r) l1 y wsc rmc (.ref (r j) :: As) M1 (some (.int v)) M1') (C : lw_C V) (d : decode cL_law pc = .ok (.invokevirtual index, 3)) (g : GoodIn wsL_law (wsV RL index Cl y wsc)) (hw : wsc = Cond.code y bytes maxL retc :: wsc') (hd : gl_hd y Cl n)
    (hrm : rmc.cells = 0 ∧ rmc.slots = 0 ∧ rmc.frames + 1 ≤ room_1.frames ∧ 8 + (maxL + 11) + rmc.locals ≤ room_1.locals) (hn : As.length = n) (hrest : (rest.map fun v => v.category).sum ≤ 8) (hst : st = As.reverse ++ .ref (r j) :: rest)
    (hj : l1[j]? = some (.inr (.inl (ci, fs)))) (hci : vwCl[ci]? = some (Cl, T, N)) (hf : cells ≤ room_1.cells ∧ slots ≤ room_1.slots)
    (k : lw_G V (B ++ gl_w (gk_F V.1 r) l1 M1') cells slots (pc + 3) L (.int v :: rest)) : lw_G V (gl_w (gk_F V.1 r) l1 M1 ++ B) cells slots pc L st := by
  obtain ⟨K, p, e, s, m, b, LL, xs, below, meth, c⟩ := V
  obtain ⟨hx, hb, hml, hown, hts, hK, hAO, hNw, hX, hbl, hLL, hlk, hr⟩ := C
  intro H locs ls hP hD hS hl
  subst hst
  have hPc : va_P K.2.1 vwCl (gl_w (gk_F K r) l1 M1) H := fun i q hi => hP i q (by rw [List.getElem?_append_left (List.getElem?_eq_some_iff.mp hi).1]; exact hi)
  have hI : gl_inj (gk_F K r) l1 := fun i j' hi hj' hij => hD.1 i j' _ _ (by rw [List.getElem?_append_left (by rw [gl_w_len]; exact hi)]; exact gl_w_at (List.getElem?_eq_getElem hi)) (by rw [List.getElem?_append_left (by rw [gl_w_len]; exact hj')]; exact gl_w_at (List.getElem?_eq_getElem hj')) hij
  have hAA : ∀ q, gl_A (gk_F K r) l1 q → va_A (gl_w (gk_F K r) l1 M1) H.size q := fun q ⟨i, hi, hq⟩ => by subst hq; exact Or.inl ⟨i, _, gl_w_at (List.getElem?_eq_getElem hi)⟩
  have hsub : ∀ q, va_A (gl_w (gk_F K r) l1 M1) H.size q → lw_A s.heap.size q := by
    rintro q (⟨i, e', hi⟩ | h)
    · exact hD.2 i _ (by rw [List.getElem?_append_left (List.getElem?_eq_some_iff.mp hi).1]; exact hi)
    · exact Nat.le_trans hS.1 h
  have hrun := va_runV (g := F0 m pc ls (As.reverse ++ .ref (r j) :: rest)) (H := H) (locs := locs) (cells := cells) (slots := slots) (p := p) (e := e) (below := below) (meth := meth) (As := As) (rest := rest) ⟨hx, hb, hml, hown, hts⟩ ct (cwV (R := room_1) n hts g hw hrm.1 hrm.2.1 hd hrm.2.2) ⟨gl_blind, va_recv hK hPc hci (gl_w_at hj), fun U hU hW => ⟨rfl, by rw [hU]; exact hPc, va_K.moved hW.alike hK, hI⟩⟩ rfl hn hl.1 rfl (lv_room hrest) d hf
  intro T0 hT X
  obtain ⟨v', st₀, t, T', L2, h0, X', hL, e1, e2, ⟨hv, hp, hz, hk⟩, stp⟩ := hrun T0 hT X
  cases hv
  rw [h0] at hz hk
  have hD1 : va_D (va_A (gl_w (gk_F K r) l1 M1) H.size) (gl_w (gk_F K r) l1 M1') := ⟨(gl_w_D hI).1, fun i q hi => hAA _ ((gl_w_D hI).2 i q hi)⟩
  obtain ⟨hP2, hD2⟩ := va_join (H1 := T'.heap) (wr := B) (w1 := gl_w (gk_F K r) l1 M1') (wc := gl_w (gk_F K r) l1 M1) hP hD (List.range (gl_w (gk_F K r) l1 M1).length) ((List.range B.length).map (fun i => (gl_w (gk_F K r) l1 M1).length + i)) lw_rgA lw_rgB lw_ndB (fun i hi => by
      obtain ⟨z, -, rfl⟩ := List.mem_map.mp hi
      intro h
      have := List.mem_range.mp h
      omega) (fun q h1' h2' => by rw [e1]; exact hk q h1' (fun h => h2' (hAA q h))) hsub (by rw [e1]; exact hp) hD1
  obtain ⟨t2, a1, b1⟩ := k T'.heap (locs ++ L2) ls hP2 hD2 ⟨Nat.le_trans hS.1 (by rw [e1]; exact hz), fun q h1' h2' => by rw [e1, hk q (Nat.lt_of_lt_of_le h1' hS.1) (fun h => h2' (hsub q (hAA q h)))]; exact hS.2.1 q h1' h2', fun q hq' => by
      rcases List.mem_append.mp hq' with h | h
      · exact hS.2.2 q h
      · exact hsub _ (hAA _ (hL q h))⟩ hl T' rfl X'
  exact ⟨t2, stp t2 a1, b1⟩
theorem lw_iconst {n : Int} (v : Int32) (C : lw_C V) (d : decode cL_law pc = .ok (.iconst n, 1)) (hv : Int32.ofInt n = v) (k : lw_G V W0 cells slots (pc + 1) L (.int v :: st)) : lw_G V W0 cells slots pc L st := by
  obtain ⟨K, p, e, s, m, b, LL, xs, below, meth, c⟩ := V
  obtain ⟨hx, hb, hml, hown, hts, hK, hAO, hNw, hX, hbl, hLL, hlk, hr⟩ := C
  intro H locs ls hP hD hS hl
  exact lv_iconst hx hb d hv (k H locs ls hP hD hS hl)
theorem lw_bipush {n : Int} (v : Int32) (C : lw_C V) (d : decode cL_law pc = .ok (.bipush n, 2)) (hv : (Int8.ofInt n).toInt32 = v) (k : lw_G V W0 cells slots (pc + 2) L (.int v :: st)) : lw_G V W0 cells slots pc L st := by
  obtain ⟨K, p, e, s, m, b, LL, xs, below, meth, c⟩ := V
  obtain ⟨hx, hb, hml, hown, hts, hK, hAO, hNw, hX, hbl, hLL, hlk, hr⟩ := C
  intro H locs ls hP hD hS hl
  exact lv_bipush hx hb d hv (k H locs ls hP hD hS hl)
theorem lw_isub {x y : Int32} (C : lw_C V) (d : decode cL_law pc = .ok (.isub, 1)) (k : lw_G V W0 cells slots (pc + 1) L (.int (x - y) :: st)) : lw_G V W0 cells slots pc L (.int y :: .int x :: st) := by
  obtain ⟨K, p, e, s, m, b, LL, xs, below, meth, c⟩ := V
  obtain ⟨hx, hb, hml, hown, hts, hK, hAO, hNw, hX, hbl, hLL, hlk, hr⟩ := C
  intro H locs ls hP hD hS hl
  exact lv_isub hx hb d (k H locs ls hP hD hS hl)
theorem lw_iand {x y : Int32} (C : lw_C V) (d : decode cL_law pc = .ok (.iand, 1)) (k : lw_G V W0 cells slots (pc + 1) L (.int (x &&& y) :: st)) : lw_G V W0 cells slots pc L (.int y :: .int x :: st) := by
  obtain ⟨K, p, e, s, m, b, LL, xs, below, meth, c⟩ := V
  obtain ⟨hx, hb, hml, hown, hts, hK, hAO, hNw, hX, hbl, hLL, hlk, hr⟩ := C
  intro H locs ls hP hD hS hl
  exact lv_iand hx hb d (k H locs ls hP hD hS hl)
theorem lw_iaddN {a b2 : Nat} (C : lw_C V) (d : decode cL_law pc = .ok (.iadd, 1)) (k : lw_G V W0 cells slots (pc + 1) L (.int (nI (a + b2)) :: st)) : lw_G V W0 cells slots pc L (.int (nI b2) :: .int (nI a) :: st) := by
  obtain ⟨K, p, e, s, m, b, LL, xs, below, meth, c⟩ := V
  obtain ⟨hx, hb, hml, hown, hts, hK, hAO, hNw, hX, hbl, hLL, hlk, hr⟩ := C
  intro H locs ls hP hD hS hl
  exact lv_iadd hx hb d (by rw [nI_add]; exact k H locs ls hP hD hS hl)
theorem lw_dupR {q : Nat} (C : lw_C V) (d : decode cL_law pc = .ok (.dup, 1)) (k : lw_G V W0 cells slots (pc + 1) L (.ref q :: .ref q :: st)) : lw_G V W0 cells slots pc L (.ref q :: st) := by
  obtain ⟨K, p, e, s, m, b, LL, xs, below, meth, c⟩ := V
  obtain ⟨hx, hb, hml, hown, hts, hK, hAO, hNw, hX, hbl, hLL, hlk, hr⟩ := C
  intro H locs ls hP hD hS hl
  exact lv_dup hx hb d rfl (k H locs ls hP hD hS hl)
theorem lw_goto {off : Int} (tgt : Nat) (C : lw_C V) (d : decode cL_law pc = .ok (.goto off, 3)) (ht : (pc : Int) + off = (tgt : Int)) (k : lw_G V W0 cells slots tgt L st) : lw_G V W0 cells slots pc L st := by
  obtain ⟨K, p, e, s, m, b, LL, xs, below, meth, c⟩ := V
  obtain ⟨hx, hb, hml, hown, hts, hK, hAO, hNw, hX, hbl, hLL, hlk, hr⟩ := C
  intro H locs ls hP hD hS hl
  exact lv_goto hx hb d ht (k H locs ls hP hD hS hl)
theorem lw_icmp_gt {x y : Int32} {off : Int} (tgt : Nat) (C : lw_C V) (d : decode cL_law pc = .ok (.if_icmp .gt off, 3)) (ht : (pc : Int) + off = (tgt : Int)) (kt : y < x → lw_G V W0 cells slots tgt L st) (kf : ¬ y < x → lw_G V W0 cells slots (pc + 3) L st) : lw_G V W0 cells slots pc L (.int y :: .int x :: st) := by
  obtain ⟨K, p, e, s, m, b, LL, xs, below, meth, c⟩ := V
  obtain ⟨hx, hb, hml, hown, hts, hK, hAO, hNw, hX, hbl, hLL, hlk, hr⟩ := C
  intro H locs ls hP hD hS hl
  exact lv_icmp_gt hx hb d ht (fun q => kt q H locs ls hP hD hS hl) (fun q => kf q H locs ls hP hD hS hl)
theorem lw_icmp_same {x : Int32} {off : Int} (tgt : Nat) (C : lw_C V) (d : decode cL_law pc = .ok (.if_icmp .eq off, 3)) (ht : (pc : Int) + off = (tgt : Int)) (k : lw_G V W0 cells slots tgt L st) : lw_G V W0 cells slots pc L (.int x :: .int x :: st) := by
  obtain ⟨K, p, e, s, m, b, LL, xs, below, meth, c⟩ := V
  obtain ⟨hx, hb, hml, hown, hts, hK, hAO, hNw, hX, hbl, hLL, hlk, hr⟩ := C
  intro H locs ls hP hD hS hl
  exact lv_icmp_eq hx hb d ht (fun _ => k H locs ls hP hD hS hl) (fun q => absurd rfl q)
theorem lw_iload_0 {T : List (Option Value)} {x : Int32} (C : lw_C V) (d : decode cL_law pc = .ok (.iload_n 0, 1)) (k : lw_G V W0 cells slots (pc + 1) (some (.int x) :: T) (.int x :: st)) : lw_G V W0 cells slots pc (some (.int x) :: T) st := by
  obtain ⟨K, p, e, s, m, b, LL, xs, below, meth, c⟩ := V
  obtain ⟨hx, hb, hml, hown, hts, hK, hAO, hNw, hX, hbl, hLL, hlk, hr⟩ := C
  intro H locs ls hP hD hS hl
  exact lv_iload_n hx hb d rfl (gl_L_at hl (i := 0) rfl) (k H locs ls hP hD hS hl)
theorem lw_istore_0 {o : Option Value} {T : List (Option Value)} {x : Int32} (C : lw_C V) (d : decode cL_law pc = .ok (.istore_n 0, 1)) (k : lw_G V W0 cells slots (pc + 1) (some (.int x) :: T) st) : lw_G V W0 cells slots pc (o :: T) (.int x :: st) := by
  obtain ⟨K, p, e, s, m, b, LL, xs, below, meth, c⟩ := V
  obtain ⟨hx, hb, hml, hown, hts, hK, hAO, hNw, hX, hbl, hLL, hlk, hr⟩ := C
  intro H locs ls hP hD hS hl
  exact lv_istore_n hx hb d rfl (gl_L_has hl) (show 0 < 4 by omega) rfl (fun ls' h' => k H locs ls' hP hD hS (gl_L_set (i := 0) hl rfl h'))
theorem lw_aload_0 {T : List (Option Value)} {q : Nat} (C : lw_C V) (d : decode cL_law pc = .ok (.aload_n 0, 1)) (k : lw_G V W0 cells slots (pc + 1) (some (.ref q) :: T) (.ref q :: st)) : lw_G V W0 cells slots pc (some (.ref q) :: T) st := by
  obtain ⟨K, p, e, s, m, b, LL, xs, below, meth, c⟩ := V
  obtain ⟨hx, hb, hml, hown, hts, hK, hAO, hNw, hX, hbl, hLL, hlk, hr⟩ := C
  intro H locs ls hP hD hS hl
  exact lv_aload_n hx hb d rfl (gl_L_at hl (i := 0) rfl) (k H locs ls hP hD hS hl)
theorem lw_astore_0 {o : Option Value} {T : List (Option Value)} {q : Nat} (C : lw_C V) (d : decode cL_law pc = .ok (.astore_n 0, 1)) (k : lw_G V W0 cells slots (pc + 1) (some (.ref q) :: T) st) : lw_G V W0 cells slots pc (o :: T) (.ref q :: st) := by
  obtain ⟨K, p, e, s, m, b, LL, xs, below, meth, c⟩ := V
  obtain ⟨hx, hb, hml, hown, hts, hK, hAO, hNw, hX, hbl, hLL, hlk, hr⟩ := C
  intro H locs ls hP hD hS hl
  exact lv_astore_n hx hb d rfl (gl_L_has hl) (show 0 < 4 by omega) rfl (fun ls' h' => k H locs ls' hP hD hS (gl_L_set (i := 0) hl rfl h'))
theorem lw_iload_1 {o0 : Option Value} {T : List (Option Value)} {x : Int32} (C : lw_C V) (d : decode cL_law pc = .ok (.iload_n 1, 1)) (k : lw_G V W0 cells slots (pc + 1) (o0 :: some (.int x) :: T) (.int x :: st)) : lw_G V W0 cells slots pc (o0 :: some (.int x) :: T) st := by
  obtain ⟨K, p, e, s, m, b, LL, xs, below, meth, c⟩ := V
  obtain ⟨hx, hb, hml, hown, hts, hK, hAO, hNw, hX, hbl, hLL, hlk, hr⟩ := C
  intro H locs ls hP hD hS hl
  exact lv_iload_n hx hb d rfl (gl_L_at hl (i := 1) rfl) (k H locs ls hP hD hS hl)
theorem lw_istore_1 {o0 : Option Value} {o : Option Value} {T : List (Option Value)} {x : Int32} (C : lw_C V) (d : decode cL_law pc = .ok (.istore_n 1, 1)) (k : lw_G V W0 cells slots (pc + 1) (o0 :: some (.int x) :: T) st) : lw_G V W0 cells slots pc (o0 :: o :: T) (.int x :: st) := by
  obtain ⟨K, p, e, s, m, b, LL, xs, below, meth, c⟩ := V
  obtain ⟨hx, hb, hml, hown, hts, hK, hAO, hNw, hX, hbl, hLL, hlk, hr⟩ := C
  intro H locs ls hP hD hS hl
  exact lv_istore_n hx hb d rfl (gl_L_has hl) (show 1 < 4 by omega) rfl (fun ls' h' => k H locs ls' hP hD hS (gl_L_set (i := 1) hl rfl h'))
theorem lw_aload_1 {o0 : Option Value} {T : List (Option Value)} {q : Nat} (C : lw_C V) (d : decode cL_law pc = .ok (.aload_n 1, 1)) (k : lw_G V W0 cells slots (pc + 1) (o0 :: some (.ref q) :: T) (.ref q :: st)) : lw_G V W0 cells slots pc (o0 :: some (.ref q) :: T) st := by
  obtain ⟨K, p, e, s, m, b, LL, xs, below, meth, c⟩ := V
  obtain ⟨hx, hb, hml, hown, hts, hK, hAO, hNw, hX, hbl, hLL, hlk, hr⟩ := C
  intro H locs ls hP hD hS hl
  exact lv_aload_n hx hb d rfl (gl_L_at hl (i := 1) rfl) (k H locs ls hP hD hS hl)
theorem lw_astore_1 {o0 : Option Value} {o : Option Value} {T : List (Option Value)} {q : Nat} (C : lw_C V) (d : decode cL_law pc = .ok (.astore_n 1, 1)) (k : lw_G V W0 cells slots (pc + 1) (o0 :: some (.ref q) :: T) st) : lw_G V W0 cells slots pc (o0 :: o :: T) (.ref q :: st) := by
  obtain ⟨K, p, e, s, m, b, LL, xs, below, meth, c⟩ := V
  obtain ⟨hx, hb, hml, hown, hts, hK, hAO, hNw, hX, hbl, hLL, hlk, hr⟩ := C
  intro H locs ls hP hD hS hl
  exact lv_astore_n hx hb d rfl (gl_L_has hl) (show 1 < 4 by omega) rfl (fun ls' h' => k H locs ls' hP hD hS (gl_L_set (i := 1) hl rfl h'))
theorem lw_iload_2 {o0 o1 : Option Value} {T : List (Option Value)} {x : Int32} (C : lw_C V) (d : decode cL_law pc = .ok (.iload_n 2, 1)) (k : lw_G V W0 cells slots (pc + 1) (o0 :: o1 :: some (.int x) :: T) (.int x :: st)) : lw_G V W0 cells slots pc (o0 :: o1 :: some (.int x) :: T) st := by
  obtain ⟨K, p, e, s, m, b, LL, xs, below, meth, c⟩ := V
  obtain ⟨hx, hb, hml, hown, hts, hK, hAO, hNw, hX, hbl, hLL, hlk, hr⟩ := C
  intro H locs ls hP hD hS hl
  exact lv_iload_n hx hb d rfl (gl_L_at hl (i := 2) rfl) (k H locs ls hP hD hS hl)
theorem lw_istore_2 {o0 o1 : Option Value} {o : Option Value} {T : List (Option Value)} {x : Int32} (C : lw_C V) (d : decode cL_law pc = .ok (.istore_n 2, 1)) (k : lw_G V W0 cells slots (pc + 1) (o0 :: o1 :: some (.int x) :: T) st) : lw_G V W0 cells slots pc (o0 :: o1 :: o :: T) (.int x :: st) := by
  obtain ⟨K, p, e, s, m, b, LL, xs, below, meth, c⟩ := V
  obtain ⟨hx, hb, hml, hown, hts, hK, hAO, hNw, hX, hbl, hLL, hlk, hr⟩ := C
  intro H locs ls hP hD hS hl
  exact lv_istore_n hx hb d rfl (gl_L_has hl) (show 2 < 4 by omega) rfl (fun ls' h' => k H locs ls' hP hD hS (gl_L_set (i := 2) hl rfl h'))
theorem lw_aload_2 {o0 o1 : Option Value} {T : List (Option Value)} {q : Nat} (C : lw_C V) (d : decode cL_law pc = .ok (.aload_n 2, 1)) (k : lw_G V W0 cells slots (pc + 1) (o0 :: o1 :: some (.ref q) :: T) (.ref q :: st)) : lw_G V W0 cells slots pc (o0 :: o1 :: some (.ref q) :: T) st := by
  obtain ⟨K, p, e, s, m, b, LL, xs, below, meth, c⟩ := V
  obtain ⟨hx, hb, hml, hown, hts, hK, hAO, hNw, hX, hbl, hLL, hlk, hr⟩ := C
  intro H locs ls hP hD hS hl
  exact lv_aload_n hx hb d rfl (gl_L_at hl (i := 2) rfl) (k H locs ls hP hD hS hl)
theorem lw_astore_2 {o0 o1 : Option Value} {o : Option Value} {T : List (Option Value)} {q : Nat} (C : lw_C V) (d : decode cL_law pc = .ok (.astore_n 2, 1)) (k : lw_G V W0 cells slots (pc + 1) (o0 :: o1 :: some (.ref q) :: T) st) : lw_G V W0 cells slots pc (o0 :: o1 :: o :: T) (.ref q :: st) := by
  obtain ⟨K, p, e, s, m, b, LL, xs, below, meth, c⟩ := V
  obtain ⟨hx, hb, hml, hown, hts, hK, hAO, hNw, hX, hbl, hLL, hlk, hr⟩ := C
  intro H locs ls hP hD hS hl
  exact lv_astore_n hx hb d rfl (gl_L_has hl) (show 2 < 4 by omega) rfl (fun ls' h' => k H locs ls' hP hD hS (gl_L_set (i := 2) hl rfl h'))
theorem lw_iload_3 {o0 o1 o2 : Option Value} {T : List (Option Value)} {x : Int32} (C : lw_C V) (d : decode cL_law pc = .ok (.iload_n 3, 1)) (k : lw_G V W0 cells slots (pc + 1) (o0 :: o1 :: o2 :: some (.int x) :: T) (.int x :: st)) : lw_G V W0 cells slots pc (o0 :: o1 :: o2 :: some (.int x) :: T) st := by
  obtain ⟨K, p, e, s, m, b, LL, xs, below, meth, c⟩ := V
  obtain ⟨hx, hb, hml, hown, hts, hK, hAO, hNw, hX, hbl, hLL, hlk, hr⟩ := C
  intro H locs ls hP hD hS hl
  exact lv_iload_n hx hb d rfl (gl_L_at hl (i := 3) rfl) (k H locs ls hP hD hS hl)
theorem lw_istore_3 {o0 o1 o2 : Option Value} {o : Option Value} {T : List (Option Value)} {x : Int32} (C : lw_C V) (d : decode cL_law pc = .ok (.istore_n 3, 1)) (k : lw_G V W0 cells slots (pc + 1) (o0 :: o1 :: o2 :: some (.int x) :: T) st) : lw_G V W0 cells slots pc (o0 :: o1 :: o2 :: o :: T) (.int x :: st) := by
  obtain ⟨K, p, e, s, m, b, LL, xs, below, meth, c⟩ := V
  obtain ⟨hx, hb, hml, hown, hts, hK, hAO, hNw, hX, hbl, hLL, hlk, hr⟩ := C
  intro H locs ls hP hD hS hl
  exact lv_istore_n hx hb d rfl (gl_L_has hl) (show 3 < 4 by omega) rfl (fun ls' h' => k H locs ls' hP hD hS (gl_L_set (i := 3) hl rfl h'))
theorem lw_aload_3 {o0 o1 o2 : Option Value} {T : List (Option Value)} {q : Nat} (C : lw_C V) (d : decode cL_law pc = .ok (.aload_n 3, 1)) (k : lw_G V W0 cells slots (pc + 1) (o0 :: o1 :: o2 :: some (.ref q) :: T) (.ref q :: st)) : lw_G V W0 cells slots pc (o0 :: o1 :: o2 :: some (.ref q) :: T) st := by
  obtain ⟨K, p, e, s, m, b, LL, xs, below, meth, c⟩ := V
  obtain ⟨hx, hb, hml, hown, hts, hK, hAO, hNw, hX, hbl, hLL, hlk, hr⟩ := C
  intro H locs ls hP hD hS hl
  exact lv_aload_n hx hb d rfl (gl_L_at hl (i := 3) rfl) (k H locs ls hP hD hS hl)
theorem lw_astore_3 {o0 o1 o2 : Option Value} {o : Option Value} {T : List (Option Value)} {q : Nat} (C : lw_C V) (d : decode cL_law pc = .ok (.astore_n 3, 1)) (k : lw_G V W0 cells slots (pc + 1) (o0 :: o1 :: o2 :: some (.ref q) :: T) st) : lw_G V W0 cells slots pc (o0 :: o1 :: o2 :: o :: T) (.ref q :: st) := by
  obtain ⟨K, p, e, s, m, b, LL, xs, below, meth, c⟩ := V
  obtain ⟨hx, hb, hml, hown, hts, hK, hAO, hNw, hX, hbl, hLL, hlk, hr⟩ := C
  intro H locs ls hP hD hS hl
  exact lv_astore_n hx hb d rfl (gl_L_has hl) (show 3 < 4 by omega) rfl (fun ls' h' => k H locs ls' hP hD hS (gl_L_set (i := 3) hl rfl h'))
theorem lw_iincN_3 {o0 o1 o2 : Option Value} {T : List (Option Value)} {a v : Nat} {n : Int} (hn : Int32.ofInt n = nI v) (C : lw_C V) (d : decode cL_law pc = .ok (.iinc 3 n, 3)) (k : lw_G V W0 cells slots (pc + 3) (o0 :: o1 :: o2 :: some (.int (nI (a + v))) :: T) st) : lw_G V W0 cells slots pc (o0 :: o1 :: o2 :: some (.int (nI a)) :: T) st := by
  obtain ⟨K, p, e, s, m, b, LL, xs, below, meth, c⟩ := V
  obtain ⟨hx, hb, hml, hown, hts, hK, hAO, hNw, hX, hbl, hLL, hlk, hr⟩ := C
  intro H locs ls hP hD hS hl
  obtain ⟨kk, hkk⟩ := List.mem_iff_getElem?.mp (gl_al_mem (i := 3).mpr (show (o0 :: o1 :: o2 :: some (Value.int (nI a)) :: T)[3]? = some (some (.int (nI a))) from rfl))
  exact lv_iinc hx hb d (gl_L_has hl) hkk (by rw [hn]; exact nI_add a v) (show 3 < 4 by omega) rfl (fun ls' h' => k H locs ls' hP hD hS (gl_L_set (i := 3) hl rfl h'))
theorem lw_sld {i : Nat} (hi : i < lw_n V) (C : lw_C V) (d : decode cL_law pc = .ok (.iaload, 1)) (k : lw_G V W0 cells slots (pc + 1) L (.int (lw_x V i) :: st)) : lw_G V W0 cells slots pc L (.int (nI i) :: .ref (lw_b V) :: st) := by
  obtain ⟨K, p, e, s, m, b, LL, xs, below, meth, c⟩ := V
  obtain ⟨hx, hb, hml, hown, hts, hK, hAO, hNw, hX, hbl, hLL, hlk, hr⟩ := C
  intro H locs ls hP hD hS hl
  have hi' : i < LL := hi
  have e : (nI i).toNatClampNeg = i := nI_clamp (by omega)
  refine va_sld hx hb hX hbl (show ¬ lw_A s.heap.size b from fun h => by unfold lw_A at h; omega) hS (vp_in_nI hi' (by omega)) d ?_
  rw [e]
  exact k H locs ls hP hD hS hl
theorem lw_slen (C : lw_C V) (d : decode cL_law pc = .ok (.arraylength, 1)) (k : lw_G V W0 cells slots (pc + 1) L (.int (nI (lw_n V)) :: st)) : lw_G V W0 cells slots pc L (.ref (lw_b V) :: st) := by
  obtain ⟨K, p, e, s, m, b, LL, xs, below, meth, c⟩ := V
  obtain ⟨hx, hb, hml, hown, hts, hK, hAO, hNw, hX, hbl, hLL, hlk, hr⟩ := C
  intro H locs ls hP hD hS hl
  exact va_slen hx hb hX hbl (show ¬ lw_A s.heap.size b from fun h => by unfold lw_A at h; omega) hS d (k H locs ls hP hD hS hl)
theorem lw_table {x : Int32} (C : lw_C V) (kin : ∀ t, t ∈ [116, 159, 192, 225, 248, 271, 304, 327, 340, 363, 396, 429, 462, 505, 538, 561, 584] → lw_G V W0 cells slots t L st) (kout : lw_G V W0 cells slots 607 L st) : lw_G V W0 cells slots 32 L (.int x :: st) := by
  obtain ⟨K, p, e, s, m, b, LL, xs, below, meth, c⟩ := V
  obtain ⟨hx, hb, hml, hown, hts, hK, hAO, hNw, hX, hbl, hLL, hlk, hr⟩ := C
  intro H locs ls hP hD hS hl
  by_cases h1 : x.toInt < 0
  · exact lv_tableOut hx hb dL_law_32 (Or.inl h1) rfl (kout H locs ls hP hD hS hl)
  by_cases h2 : 16 < x.toInt
  · exact lv_tableOut hx hb dL_law_32 (Or.inr h2) rfl (kout H locs ls hP hD hS hl)
  have h3 : (x.toInt - 0).toNat < 17 := by omega
  generalize hj : (x.toInt - 0).toNat = j at h3
  rcases (show j = 0 ∨ j = 1 ∨ j = 2 ∨ j = 3 ∨ j = 4 ∨ j = 5 ∨ j = 6 ∨ j = 7 ∨ j = 8 ∨ j = 9 ∨ j = 10 ∨ j = 11 ∨ j = 12 ∨ j = 13 ∨ j = 14 ∨ j = 15 ∨ j = 16 by omega) with rfl | rfl | rfl | rfl | rfl | rfl | rfl | rfl | rfl | rfl | rfl | rfl | rfl | rfl | rfl | rfl | rfl
  · exact lv_tableIn (tgt := 116) hx hb dL_law_32 h1 h2 (by rw [hj]; rfl) rfl (kin 116 (by decide) H locs ls hP hD hS hl)
  · exact lv_tableIn (tgt := 159) hx hb dL_law_32 h1 h2 (by rw [hj]; rfl) rfl (kin 159 (by decide) H locs ls hP hD hS hl)
  · exact lv_tableIn (tgt := 192) hx hb dL_law_32 h1 h2 (by rw [hj]; rfl) rfl (kin 192 (by decide) H locs ls hP hD hS hl)
  · exact lv_tableIn (tgt := 225) hx hb dL_law_32 h1 h2 (by rw [hj]; rfl) rfl (kin 225 (by decide) H locs ls hP hD hS hl)
  · exact lv_tableIn (tgt := 248) hx hb dL_law_32 h1 h2 (by rw [hj]; rfl) rfl (kin 248 (by decide) H locs ls hP hD hS hl)
  · exact lv_tableIn (tgt := 271) hx hb dL_law_32 h1 h2 (by rw [hj]; rfl) rfl (kin 271 (by decide) H locs ls hP hD hS hl)
  · exact lv_tableIn (tgt := 304) hx hb dL_law_32 h1 h2 (by rw [hj]; rfl) rfl (kin 304 (by decide) H locs ls hP hD hS hl)
  · exact lv_tableIn (tgt := 327) hx hb dL_law_32 h1 h2 (by rw [hj]; rfl) rfl (kin 327 (by decide) H locs ls hP hD hS hl)
  · exact lv_tableIn (tgt := 340) hx hb dL_law_32 h1 h2 (by rw [hj]; rfl) rfl (kin 340 (by decide) H locs ls hP hD hS hl)
  · exact lv_tableIn (tgt := 363) hx hb dL_law_32 h1 h2 (by rw [hj]; rfl) rfl (kin 363 (by decide) H locs ls hP hD hS hl)
  · exact lv_tableIn (tgt := 396) hx hb dL_law_32 h1 h2 (by rw [hj]; rfl) rfl (kin 396 (by decide) H locs ls hP hD hS hl)
  · exact lv_tableIn (tgt := 429) hx hb dL_law_32 h1 h2 (by rw [hj]; rfl) rfl (kin 429 (by decide) H locs ls hP hD hS hl)
  · exact lv_tableIn (tgt := 462) hx hb dL_law_32 h1 h2 (by rw [hj]; rfl) rfl (kin 462 (by decide) H locs ls hP hD hS hl)
  · exact lv_tableIn (tgt := 505) hx hb dL_law_32 h1 h2 (by rw [hj]; rfl) rfl (kin 505 (by decide) H locs ls hP hD hS hl)
  · exact lv_tableIn (tgt := 538) hx hb dL_law_32 h1 h2 (by rw [hj]; rfl) rfl (kin 538 (by decide) H locs ls hP hD hS hl)
  · exact lv_tableIn (tgt := 561) hx hb dL_law_32 h1 h2 (by rw [hj]; rfl) rfl (kin 561 (by decide) H locs ls hP hD hS hl)
  · exact lv_tableIn (tgt := 584) hx hb dL_law_32 h1 h2 (by rw [hj]; rfl) rfl (kin 584 (by decide) H locs ls hP hD hS hl)
theorem lw_end (C : lw_C V) (hc : cells ≤ 600000) (hs : slots ≤ 7302250) : lw_G V W0 cells slots 613 L [] := by
  obtain ⟨K, p, e, s, m, b, LL, xs, below, meth, c⟩ := V
  obtain ⟨hx, hb, hml, hown, hts, hK, hAO, hNw, hX, hbl, hLL, hlk, hr⟩ := C
  intro H locs ls hP hD hS hl
  refine va_forget (fun q hq => hS.2.2 q hq) ?_
  refine W.widen hc hs ?_
  refine lv_iconst (v := 1) hx hb dL_law_613 (by decide) ?_
  exact lw_ret hx hb hr hlk dL_law_614
end LWR
