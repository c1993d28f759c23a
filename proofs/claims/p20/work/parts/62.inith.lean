theorem gk_last {α : Type} {A : List α} {x : α} {n : Nat} (h : A.length = n) : (A ++ [x])[n]? = some x := by subst h; simp
theorem gk_rng {α : Type} {A : List α} {x : α} {n : Nat} (h : A.length = n) : (List.range n).map (fun i => (A ++ [x])[i]?) = A.map some := by
  subst h
  apply List.ext_getElem?
  intro i
  rw [List.getElem?_map, List.getElem?_map]
  by_cases hi : i < A.length
  · rw [List.getElem?_range hi, List.getElem?_eq_getElem hi]
    simp [List.getElem?_append_left hi, List.getElem?_eq_getElem hi]
  · rw [List.getElem?_eq_none (by simp; omega), List.getElem?_eq_none (by omega)]
    rfl
theorem gk_mid {A : va_W} {F : gl_F} {lay : List gl_Ce} {M : Nat → Int32} {n ci : Nat} {fs : List (Nat ⊕ Nat)} (h : A.length = n) (h0 : lay[0]? = some (.inr (.inl (ci, fs)))) : (A ++ gl_w F lay M)[n]? = some (gl_r F 0, .inr (ci, fs.map (gl_v F M))) := by
  subst h
  rw [List.getElem?_append_right (Nat.le_refl _), Nat.sub_self, gl_w_at h0]
  rfl
/-- a constructor called on the object made last -/
theorem gk_callL {cc : ByteArray} {ws : List Cond} {own : String} {rm : Room} {lay : List gl_Ce} {M : Nat → Int32} {mc ms : Nat} {V : gk_V} {A : va_W} {cells slots pc : Nat} {L : List (Option Value)} {st : List Value}
    {index ci maxL a mc1 ms1 : Nat} {fs : List Value} {y : MethodName} {wsc wsc' : List Cond} {bytes : ByteArray} {rmc : Room} {layc : List gl_Ce} {Mc : Nat → Int32} (n : Nat)
    (ct : gk_Kt V.1 y wsc rmc ci fs layc Mc mc1 ms1) (C : gk_C cc ws own rm V) (d : decode cc pc = .ok (.invokespecial index, 3)) (g : GoodIn ws wsc) (hw : wsc = Cond.code y bytes maxL none :: wsc') (h1 : Cond.initialized y.cls ∈ ws) (h2 : Cond.methodLink own index y ∈ ws) (h3 : Cond.instanceMethod y ∈ ws) (hy : y.name = "<init>")
    (hd : y.cls ≠ "java/lang/invoke/MethodHandle" ∧ y.cls ≠ "java/lang/invoke/VarHandle" ∧ (parseMethodDescriptor y.desc).map (fun d => d.parameters.length) = some 0) (hrm : rmc.cells = mc1 ∧ rmc.slots = ms1 ∧ rmc.frames + 1 ≤ rm.frames ∧ 8 + (maxL + 11) + rmc.locals ≤ rm.locals)
    (hf : cells + mc1 ≤ rm.cells ∧ slots + ms1 ≤ rm.slots) (hrest : (st.map fun v => v.category).sum ≤ 8)
    (hA : A.length = n) (hnd : va_nd (List.range n) = true)
    (k : ∀ r : Nat → Nat, r 0 = a → gk_G lay M mc ms V (A ++ gl_w (gk_F V.1 r) layc Mc) (cells + mc1) (slots + ms1) (pc + 3) L st) : gk_G lay M mc ms V (A ++ [(a, .inr (ci, fs))]) cells slots pc L (.ref a :: st) :=
  gk_callI (q0 := n) A (List.range n) ct C d g hw h1 h2 h3 hy hd hrm hf hrest (gk_last hA) (gk_rng hA) hnd (fun i hi => by have := List.mem_range.mp hi; simp; omega) k
/-- a private constructor called on the object made last -/
theorem gk_callLN {cc : ByteArray} {ws : List Cond} {own : String} {rm : Room} {lay : List gl_Ce} {M : Nat → Int32} {mc ms : Nat} {V : gk_V} {A : va_W} {cells slots pc : Nat} {L : List (Option Value)} {st : List Value}
    {index ci maxL a mc1 ms1 : Nat} {fs : List Value} {y : MethodName} {wsc wsc' : List Cond} {bytes : ByteArray} {rmc : Room} {layc : List gl_Ce} {Mc : Nat → Int32} (n : Nat)
    (ct : gk_Kt V.1 y wsc rmc ci fs layc Mc mc1 ms1) (C : gk_C cc ws own rm V) (d : decode cc pc = .ok (.invokespecial index, 3)) (g : GoodIn ws wsc) (hw : wsc = Cond.code y bytes maxL none :: wsc') (h1 : Cond.initialized y.cls ∈ ws) (h2 : ∀ U : State, gk_Nw U → va_Nw (.methodLinkNest own index y RX4) U) (h3 : Cond.instanceMethod y ∈ ws) (hy : y.name = "<init>")
    (hd : y.cls ≠ "java/lang/invoke/MethodHandle" ∧ y.cls ≠ "java/lang/invoke/VarHandle" ∧ (parseMethodDescriptor y.desc).map (fun d => d.parameters.length) = some 0) (hrm : rmc.cells = mc1 ∧ rmc.slots = ms1 ∧ rmc.frames + 1 ≤ rm.frames ∧ 8 + (maxL + 11) + rmc.locals ≤ rm.locals)
    (hf : cells + mc1 ≤ rm.cells ∧ slots + ms1 ≤ rm.slots) (hrest : (st.map fun v => v.category).sum ≤ 8)
    (hA : A.length = n) (hnd : va_nd (List.range n) = true)
    (k : ∀ r : Nat → Nat, r 0 = a → gk_G lay M mc ms V (A ++ gl_w (gk_F V.1 r) layc Mc) (cells + mc1) (slots + ms1) (pc + 3) L st) : gk_G lay M mc ms V (A ++ [(a, .inr (ci, fs))]) cells slots pc L (.ref a :: st) :=
  gk_callIN (q0 := n) A (List.range n) ct C d g hw h1 h2 h3 hy hd hrm hf hrest (gk_last hA) (gk_rng hA) hnd (fun i hi => by have := List.mem_range.mp hi; simp; omega) k
theorem vfX0 : ∀ j, j < 9 → defaultValue (tyX0 j) = vp_V [.int 0, .null, .null, .null, .null, .null, .null, .null, .null] j := by decide +kernel
theorem vfX1 : ∀ j, j < 8 → defaultValue (tyX1 j) = vp_V [.int 0, .int 0, .null, .null, .null, .null, .null, .null] j := by decide +kernel
theorem vfX2 : ∀ j, j < 3 → defaultValue (tyX2 j) = vp_V [.int 0, .int 0, .null] j := by decide +kernel
theorem vfX3 : ∀ j, j < 4 → defaultValue (tyX3 j) = vp_V [.int 0, .null, .null, .null] j := by decide +kernel

theorem pX3_init_9 : gk_ff wsX3_init RX3 9 3 1 (.array .int) := ⟨RX3, TX3, 4, RX3, tyX3, rfl, by decide, by decide +kernel, by decide +kernel, rfl, tyX3_ok, nmX3, rfl, rfl, rfl⟩
theorem pX3_init_18 : gk_ff wsX3_init RX3 18 3 2 (.object "GoalLifts$Cars") := ⟨RX3, TX3, 4, RX3, tyX3, rfl, by decide, by decide +kernel, by decide +kernel, rfl, tyX3_ok, nmX3, rfl, rfl, rfl⟩
theorem pX3_init_25 : gk_ff wsX3_init RX3 25 3 3 (.object "GoalLifts$Callers") := ⟨RX3, TX3, 4, RX3, tyX3, rfl, by decide, by decide +kernel, by decide +kernel, rfl, tyX3_ok, nmX3, rfl, rfl, rfl⟩
theorem fX3_init_9 : gl_fl wsX3_init RX3 9 3 1 := ⟨RX3, TX3, 4, RX3, rfl, by decide, by decide +kernel, by decide +kernel, rfl⟩
theorem gk_aw {M : Nat → Int32} (hM : ∀ i, i < 378 → M i = MH i) : (fun i => if i < 24 then M (4 + i) else 0) = (fun i => if i < 24 then nI 5 else 0) := by
  funext i
  by_cases hi : i < 24
  · rw [if_pos hi, if_pos hi, hM _ (by omega)]; unfold MH; rw [if_pos (by omega)]
  · rw [if_neg hi, if_neg hi]
theorem gk_up0 : (fun _ => (0 : Int32)) = (fun i => if i < 0 then nI 5 else 0) := by funext i; rw [if_neg (by omega)]
theorem gk_up {k : Nat} : upd (fun i => if i < k then nI 5 else 0) k (nI 5) = (fun i => if i < k + 1 then nI 5 else 0) := by
  funext i
  unfold upd
  by_cases hi : i = k
  · rw [if_pos hi, if_pos (by omega)]
  · rw [if_neg hi]
    show (if i < k then nI 5 else 0) = _
    by_cases h2 : i < k
    · rw [if_pos h2, if_pos (by omega)]
    · rw [if_neg h2, if_neg (by omega)]
set_option maxRecDepth 100000 in
set_option maxHeartbeats 8000000 in
theorem ctX3_init (K : gk_K) {M : Nat → Int32} (hM : ∀ i, i < 378 → M i = MH i) : gk_Kt K yX3_init wsX3_init rmX3_init 3 [.int 0, .null, .null, .null] LH M 17 391 := by
  refine gk_met (cc := cX3_init) (maxL := 2) (fun h0 => [some (.ref h0), none]) (plainFor_of_name (by decide)) rfl rfl (by decide) (fun h0 => rfl) (fun V hV C => ?_)
  subst hV
  refine gk_aload_0 (pc := 0) C dX3_init_0 ?_
  refine gk_objInit (pc := 1) C dX3_init_1 (by decide +kernel) (by decide +kernel) (by decide +kernel) ⟨(Nat.le_of_ble_eq_true rfl), (Nat.le_of_ble_eq_true rfl)⟩ ?_
  refine gk_aload_0 (pc := 4) C dX3_init_4 ?_
  refine gk_bipush (pc := 5) (nI 24) C dX3_init_5 (by decide +kernel) ?_
  refine gk_newa (pc := 7) C dX3_init_7 (by decide +kernel) (by omega) (Nat.le_of_ble_eq_true rfl) (Nat.le_of_ble_eq_true rfl) (fun q1 => ?_)
  refine gk_ws (W1 := [(V.2.1, .inr (3, [.int 0, .null, .null, .null])), (q1, .inl (V.1.2.2.1, 24, .inl (fun _ => 0)))]) rfl ?_
  refine gk_putF (pc := 9) (q0 := 0) C dX3_init_9 pX3_init_9 rfl (Nat.le_of_ble_eq_true rfl) rfl rfl ?_
  refine gk_ws (W1 := [(V.2.1, .inr (3, [.int 0, .ref q1, .null, .null])), (q1, .inl (V.1.2.2.1, 24, .inl (fun _ => 0)))]) rfl ?_
  refine gk_aload_0 (pc := 12) C dX3_init_12 ?_
  refine gk_new (pc := 13) (ci := 1) (Cl := RX1) (T := TX1) (N := 8) (fs := [.int 0, .int 0, .null, .null, .null, .null, .null, .null]) tyX1 C dX3_init_13 rfl (by decide +kernel) tyX1_ok (by decide +kernel) (by decide +kernel) (by decide +kernel) vfX1 (Nat.le_of_ble_eq_true rfl) (Nat.le_of_ble_eq_true rfl) (fun q2 => ?_)
  refine gk_dupR (pc := 16) C dX3_init_16 ?_
  refine gk_callLN (pc := 17) (layc := LCars) (Mc := M) 2 (ctX1_init V.1 (M := M) (by rw [hM _ (by omega)]; rfl) (by rw [hM _ (by omega)]; rfl) (fun c w hc hw => by rw [hM _ (by unfold iC; omega)]; unfold MH iC; rw [if_neg (by omega)])) C dX3_init_17 gX3_init_X1_init_n17 rfl (by decide +kernel) (fun _ h => h.1) (by decide +kernel) rfl hdX1_init ⟨rfl, rfl, (Nat.le_of_ble_eq_true rfl), (Nat.le_of_ble_eq_true rfl)⟩ ⟨(Nat.le_of_ble_eq_true rfl), (Nat.le_of_ble_eq_true rfl)⟩ (Nat.le_of_ble_eq_true rfl) rfl (by decide +kernel) (fun rc erc => ?_)
  subst erc
  refine gk_ws (W1 := [(V.2.1, .inr (3, [.int 0, .ref q1, .null, .null])), (q1, .inl (V.1.2.2.1, 24, .inl (fun _ => 0)))] ++ gl_w (gk_F V.1 rc) LCars M) rfl ?_
  refine gk_putF (pc := 20) (q0 := 0) C dX3_init_20 pX3_init_18 rfl (Nat.le_of_ble_eq_true rfl) rfl rfl ?_
  refine gk_ws (W1 := [(V.2.1, .inr (3, [.int 0, .ref q1, .ref (rc 0), .null])), (q1, .inl (V.1.2.2.1, 24, .inl (fun _ => 0)))] ++ gl_w (gk_F V.1 rc) LCars M) rfl ?_
  refine gk_aload_0 (pc := 23) C dX3_init_23 ?_
  refine gk_new (pc := 24) (ci := 0) (Cl := RX0) (T := TX0) (N := 9) (fs := [.int 0, .null, .null, .null, .null, .null, .null, .null, .null]) tyX0 C dX3_init_24 rfl (by decide +kernel) tyX0_ok (by decide +kernel) (by decide +kernel) (by decide +kernel) vfX0 (Nat.le_of_ble_eq_true rfl) (Nat.le_of_ble_eq_true rfl) (fun q3 => ?_)
  refine gk_dupR (pc := 27) C dX3_init_27 ?_
  refine gk_callLN (pc := 28) (layc := LCall) (Mc := M) 9 (ctX0_init V.1 (M := M) (by rw [hM _ (by omega)]; rfl) (fun k w hk hw => by rw [hM _ (by unfold iK; omega)]; unfold MH iK; rw [if_neg (by omega)])) C dX3_init_28 gX3_init_X0_init_n24 rfl (by decide +kernel) (fun _ h => h.2) (by decide +kernel) rfl hdX0_init ⟨rfl, rfl, (Nat.le_of_ble_eq_true rfl), (Nat.le_of_ble_eq_true rfl)⟩ ⟨(Nat.le_of_ble_eq_true rfl), (Nat.le_of_ble_eq_true rfl)⟩ (Nat.le_of_ble_eq_true rfl) rfl (by decide +kernel) (fun rk erk => ?_)
  subst erk
  refine gk_ws (W1 := [(V.2.1, .inr (3, [.int 0, .ref q1, .ref (rc 0), .null])), (q1, .inl (V.1.2.2.1, 24, .inl (fun _ => 0)))] ++ gl_w (gk_F V.1 rc) LCars M ++ gl_w (gk_F V.1 rk) LCall M) rfl ?_
  refine gk_putF (pc := 31) (q0 := 0) C dX3_init_31 pX3_init_25 rfl (Nat.le_of_ble_eq_true rfl) rfl rfl ?_
  refine gk_ws (W1 := [(V.2.1, .inr (3, [.int 0, .ref q1, .ref (rc 0), .ref (rk 0)])), (q1, .inl (V.1.2.2.1, 24, .inl (fun _ => 0)))] ++ gl_w (gk_F V.1 rc) LCars M ++ gl_w (gk_F V.1 rk) LCall M) rfl ?_
  refine gk_iconst (pc := 34) (nI 0) C dX3_init_34 (by decide +kernel) ?_
  refine gk_istore_1 (pc := 35) C dX3_init_35 ?_
  refine gk_loop (n := 24) (fun k => [some (.ref V.2.1), some (.int (nI k))]) (fun k => [(V.2.1, .inr (3, [.int 0, .ref q1, .ref (rc 0), .ref (rk 0)])), (q1, .inl (V.1.2.2.1, 24, .inl (fun i => if i < k then nI 5 else 0)))] ++ gl_w (gk_F V.1 rc) LCars M ++ gl_w (gk_F V.1 rk) LCall M) (gl_le_c rfl (gl_le_c rfl gl_le_n)) (by rw [gk_up0]) ?_ (fun k hk ih => ?_)
  · refine gk_iload_1 (pc := 36) C dX3_init_36 ?_
    refine gk_bipush (pc := 37) (nI 24) C dX3_init_37 (by decide +kernel) ?_
    refine gk_icmp_ge (pc := 39) 55 C dX3_init_39 rfl (fun _ => ?_) (fun h => absurd (by decide) h)
    refine gk_vret (pc := 55) C dX3_init_55 (fun j => if j = 0 then V.2.1 else if j = 1 then q1 else if j < 9 then rc (j - 2) else rk (j - 9)) rfl (gk_eq rfl (fun j c hj => ?_)) rfl rfl
    have hl : j < 18 := (List.getElem?_eq_some_iff.mp hj).1
    rcases (show j = 0 ∨ j = 1 ∨ j = 2 ∨ j = 3 ∨ j = 4 ∨ j = 5 ∨ j = 6 ∨ j = 7 ∨ j = 8 ∨ j = 9 ∨ j = 10 ∨ j = 11 ∨ j = 12 ∨ j = 13 ∨ j = 14 ∨ j = 15 ∨ j = 16 ∨ j = 17 by omega) with rfl | rfl | rfl | rfl | rfl | rfl | rfl | rfl | rfl | rfl | rfl | rfl | rfl | rfl | rfl | rfl | rfl | rfl
    · cases hj; refine congrArg some (Prod.ext rfl ?_); simp only [gl_e, gl_v, List.map]; rw [hM 0 (by omega)]; rfl
    · cases hj; refine congrArg some (Prod.ext rfl ?_); simp only [gl_e]; rw [gk_aw hM]; rfl
    · cases hj; rfl
    · cases hj; rfl
    · cases hj; rfl
    · cases hj; rfl
    · cases hj; rfl
    · cases hj; rfl
    · cases hj; rfl
    · cases hj; rfl
    · cases hj; rfl
    · cases hj; rfl
    · cases hj; rfl
    · cases hj; rfl
    · cases hj; rfl
    · cases hj; rfl
    · cases hj; rfl
    · cases hj; rfl
  · refine gk_iload_1 (pc := 36) C dX3_init_36 ?_
    refine gk_bipush (pc := 37) (nI 24) C dX3_init_37 (by decide +kernel) ?_
    refine gk_icmp_ge (pc := 39) 55 C dX3_init_39 rfl (fun h => absurd ((nI_leI (by omega) (by omega)).mp h) (by omega)) (fun _ => ?_)
    refine gk_aload_0 (pc := 42) C dX3_init_42 ?_
    refine gk_get (pc := 43) (q0 := 0) (k := 1) C dX3_init_43 fX3_init_9 rfl rfl ?_
    refine gk_iload_1 (pc := 46) C dX3_init_46 ?_
    refine gk_iconst (pc := 47) (nI 5) C dX3_init_47 (by decide) ?_
    refine gk_iast (pc := 48) (q0 := 1) k C dX3_init_48 rfl rfl hk (by omega) ?_
    refine gk_iincN_1 (pc := 49) (v := 1) (by decide) C dX3_init_49 ?_
    refine gk_goto (pc := 52) 36 C dX3_init_52 rfl (gk_ws ?_ ih)
    show _ :: (q1, Sum.inl (V.1.2.2.1, 24, Sum.inl (upd _ k (nI 5)))) :: _ = _ :: (q1, Sum.inl (V.1.2.2.1, 24, Sum.inl _)) :: _
    rw [gk_up]
