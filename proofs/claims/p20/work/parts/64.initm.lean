theorem pX4_init_10 : gk_ff wsX4_init RX4 10 4 0 (.object "GoalLifts$House") := ⟨RX4, TX4, 3, RX4, tyX4, rfl, by decide, by decide +kernel, by decide +kernel, rfl, tyX4_ok, nmX4, rfl, rfl, rfl⟩
theorem pX4_init_16 : gk_ff wsX4_init RX4 16 4 1 (.object "GoalLifts$House") := ⟨RX4, TX4, 3, RX4, tyX4, rfl, by decide, by decide +kernel, by decide +kernel, rfl, tyX4_ok, nmX4, rfl, rfl, rfl⟩
theorem pX4_init_22 : gk_ff wsX4_init RX4 22 4 2 (.object "GoalLifts$History") := ⟨RX4, TX4, 3, RX4, tyX4, rfl, by decide, by decide +kernel, by decide +kernel, rfl, tyX4_ok, nmX4, rfl, rfl, rfl⟩
theorem gk_base1 {F : gl_F} {l : List gl_Ce} {M : Nat → Int32} {c0 : gl_Ce} {x : Nat × va_E} (h0 : l[0]? = some c0) (hx : x = (gl_r F 0, gl_e F M c0)) : [x] = (gl_w F l M).take 1 := by
  subst hx
  apply List.ext_getElem?
  intro i
  by_cases hi : i < 1
  · rw [List.getElem?_take_of_lt hi]
    rcases (show i = 0 by omega) with rfl
    exact (gl_w_at h0).symm
  · rw [List.getElem?_eq_none (by simp; omega), List.getElem?_eq_none (by simp; omega)]
set_option maxRecDepth 100000 in
set_option maxHeartbeats 8000000 in
theorem ctX4_init (K : gk_K)  : gk_Kt K yX4_init wsX4_init rmX4_init 4 [.null, .null, .null] LG MG 128 2773 := by
  refine gk_met (cc := cX4_init) (maxL := 1) (fun h0 => [some (.ref h0)]) (plainFor_of_name (by decide)) rfl rfl (by decide) (fun h0 => rfl) (fun V hV C => ?_)
  subst hV
  refine gk_aload_0 (pc := 0) C dX4_init_0 ?_
  refine gk_objInit (pc := 1) C dX4_init_1 (by decide +kernel) (by decide +kernel) (by decide +kernel) ⟨(Nat.le_of_ble_eq_true rfl), (Nat.le_of_ble_eq_true rfl)⟩ ?_
  refine gk_aload_0 (pc := 4) C dX4_init_4 ?_
  refine gk_new (pc := 5) (ci := 3) (Cl := RX3) (T := TX3) (N := 4) (fs := [.int 0, .null, .null, .null]) tyX3 C dX4_init_5 rfl (by decide +kernel) tyX3_ok (by decide +kernel) (by decide +kernel) (by decide +kernel) vfX3 (Nat.le_of_ble_eq_true rfl) (Nat.le_of_ble_eq_true rfl) (fun p0 => ?_)
  refine gk_dupR (pc := 8) C dX4_init_8 ?_
  refine gk_callL (pc := 9) (layc := LH) (Mc := (fun i => MG (0 + i))) 1 (ctX3_init V.1 (M := fun i => MG (0 + i)) (fun i hi => MG_h 0 i (by omega) hi)) C dX4_init_9 gX4_init_X3_init rfl (by decide +kernel) (by decide +kernel) (by decide +kernel) rfl hdX3_init ⟨rfl, rfl, (Nat.le_of_ble_eq_true rfl), (Nat.le_of_ble_eq_true rfl)⟩ ⟨(Nat.le_of_ble_eq_true rfl), (Nat.le_of_ble_eq_true rfl)⟩ (Nat.le_of_ble_eq_true rfl) rfl (by decide +kernel) (fun rA erA => ?_)
  subst erA
  refine gk_ws (W1 := [(V.2.1, .inr (4, [.null, .null, .null]))] ++ gl_w (gk_F V.1 rA) LH (fun i => MG (0 + i))) rfl ?_
  refine gk_putF (pc := 12) (q0 := 0) C dX4_init_12 pX4_init_10 rfl (Nat.le_of_ble_eq_true rfl) rfl rfl ?_
  refine gk_ws (W1 := [(V.2.1, .inr (4, [.ref (rA 0), .null, .null]))] ++ gl_w (gk_F V.1 rA) LH (fun i => MG (0 + i))) rfl ?_
  refine gk_aload_0 (pc := 15) C dX4_init_15 ?_
  refine gk_new (pc := 16) (ci := 3) (Cl := RX3) (T := TX3) (N := 4) (fs := [.int 0, .null, .null, .null]) tyX3 C dX4_init_16 rfl (by decide +kernel) tyX3_ok (by decide +kernel) (by decide +kernel) (by decide +kernel) vfX3 (Nat.le_of_ble_eq_true rfl) (Nat.le_of_ble_eq_true rfl) (fun p1 => ?_)
  refine gk_dupR (pc := 19) C dX4_init_19 ?_
  refine gk_callL (pc := 20) (layc := LH) (Mc := (fun i => MG (378 + i))) 19 (ctX3_init V.1 (M := fun i => MG (378 + i)) (fun i hi => MG_h 1 i (by omega) hi)) C dX4_init_20 gX4_init_X3_init rfl (by decide +kernel) (by decide +kernel) (by decide +kernel) rfl hdX3_init ⟨rfl, rfl, (Nat.le_of_ble_eq_true rfl), (Nat.le_of_ble_eq_true rfl)⟩ ⟨(Nat.le_of_ble_eq_true rfl), (Nat.le_of_ble_eq_true rfl)⟩ (Nat.le_of_ble_eq_true rfl) (by simp only [List.length_append, List.length_cons, List.length_nil, gl_w_len]; rfl) (by decide +kernel) (fun rB erB => ?_)
  subst erB
  refine gk_ws (W1 := [(V.2.1, .inr (4, [.ref (rA 0), .null, .null]))] ++ gl_w (gk_F V.1 rA) LH (fun i => MG (0 + i)) ++ gl_w (gk_F V.1 rB) LH (fun i => MG (378 + i))) rfl ?_
  refine gk_putF (pc := 23) (q0 := 0) C dX4_init_23 pX4_init_16 rfl (Nat.le_of_ble_eq_true rfl) rfl rfl ?_
  refine gk_ws (W1 := [(V.2.1, .inr (4, [.ref (rA 0), .ref (rB 0), .null]))] ++ gl_w (gk_F V.1 rA) LH (fun i => MG (0 + i)) ++ gl_w (gk_F V.1 rB) LH (fun i => MG (378 + i))) rfl ?_
  refine gk_aload_0 (pc := 26) C dX4_init_26 ?_
  refine gk_new (pc := 27) (ci := 2) (Cl := RX2) (T := TX2) (N := 3) (fs := [.int 0, .int 0, .null]) tyX2 C dX4_init_27 rfl (by decide +kernel) tyX2_ok (by decide +kernel) (by decide +kernel) (by decide +kernel) vfX2 (Nat.le_of_ble_eq_true rfl) (Nat.le_of_ble_eq_true rfl) (fun p2 => ?_)
  refine gk_dupR (pc := 30) C dX4_init_30 ?_
  refine gk_callL (pc := 31) (layc := LHist) (Mc := MG) 37 (ctX2_init V.1) C dX4_init_31 gX4_init_X2_init rfl (by decide +kernel) (by decide +kernel) (by decide +kernel) rfl hdX2_init ⟨rfl, rfl, (Nat.le_of_ble_eq_true rfl), (Nat.le_of_ble_eq_true rfl)⟩ ⟨(Nat.le_of_ble_eq_true rfl), (Nat.le_of_ble_eq_true rfl)⟩ (Nat.le_of_ble_eq_true rfl) (by simp only [List.length_append, List.length_cons, List.length_nil, gl_w_len]; rfl) (by decide +kernel) (fun rC erC => ?_)
  subst erC
  refine gk_ws (W1 := [(V.2.1, .inr (4, [.ref (rA 0), .ref (rB 0), .null]))] ++ gl_w (gk_F V.1 rA) LH (fun i => MG (0 + i)) ++ gl_w (gk_F V.1 rB) LH (fun i => MG (378 + i)) ++ gl_w (gk_F V.1 rC) LHist MG) rfl ?_
  refine gk_putF (pc := 34) (q0 := 0) C dX4_init_34 pX4_init_22 rfl (Nat.le_of_ble_eq_true rfl) rfl rfl ?_
  refine gk_ws (W1 := [(V.2.1, .inr (4, [.ref (rA 0), .ref (rB 0), .ref (rC 0)]))] ++ gl_w (gk_F V.1 rA) LH (fun i => MG (0 + i)) ++ gl_w (gk_F V.1 rB) LH (fun i => MG (378 + i)) ++ gl_w (gk_F V.1 rC) LHist MG) rfl ?_
  refine gk_vret (pc := 37) C dX4_init_37 (fun j => if j = 0 then V.2.1 else if j < 19 then rA (j - 1) else if j < 37 then rB (j - 19) else rC (j - 37)) rfl ?_ rfl rfl
  have b0 : [(V.2.1, .inr (4, [.ref (rA 0), .ref (rB 0), .ref (rC 0)]))] = (gl_w (gk_F V.1 (fun j => if j = 0 then V.2.1 else if j < 19 then rA (j - 1) else if j < 37 then rB (j - 19) else rC (j - 37))) LG MG).take 1 := gk_base1 (c0 := .inr (.inl (4, [.inr 1, .inr 19, .inr 37]))) rfl rfl
  have b1 := gk_seg (r1 := rA) (L1 := LH) (M1 := fun i => MG (0 + i)) 1 0 b0 (by decide) (fun i hi => by have hi' : i < 18 := hi; show (if 1 + i = 0 then _ else _) = _; rw [if_neg (by omega), if_pos (by omega)]; congr 1; omega) (by decide +kernel) (by decide +kernel) (fun i => rfl)
  have b2 := gk_seg (r1 := rB) (L1 := LH) (M1 := fun i => MG (378 + i)) 19 378 b1 (by decide) (fun i hi => by have hi' : i < 18 := hi; show (if 19 + i = 0 then _ else _) = _; rw [if_neg (by omega), if_neg (by omega), if_pos (by omega)]; congr 1; omega) (by decide +kernel) (by decide +kernel) (fun i => rfl)
  have b3 := gk_seg (r1 := rC) (L1 := LHist) (M1 := MG) 37 0 b2 (by decide) (fun i hi => by have hi' : i < 92 := hi; show (if 37 + i = 0 then _ else _) = _; rw [if_neg (by omega), if_neg (by omega), if_neg (by omega)]; congr 1; omega) (by decide +kernel) (by decide +kernel) (fun i => by rw [Nat.zero_add])
  exact b3.trans (List.take_of_length_le (by rw [gl_w_len]; decide))
