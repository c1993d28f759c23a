theorem pX2_init_11 : gk_ff wsX2_init RX2 11 2 2 (.array (.object "GoalLifts$House")) := ⟨RX2, TX2, 3, RX2, tyX2, rfl, by decide, by decide +kernel, by decide +kernel, rfl, tyX2_ok, nmX2, rfl, rfl, rfl⟩
theorem fX2_init_11 : gl_fl wsX2_init RX2 11 2 2 := ⟨RX2, TX2, 3, RX2, rfl, by decide, by decide +kernel, by decide +kernel, rfl⟩
theorem MG_h (h i : Nat) (hh : h < 7) (hi : i < 378) : MG (378 * h + i) = MH i := by
  unfold MG
  rw [if_pos (by omega)]
  congr 1
  omega
theorem gk_r5 {a b c d e : Nat} {F : gl_F} {g : Nat → Nat} (h0 : gl_r F (g 0) = a) (h1 : gl_r F (g 1) = b) (h2 : gl_r F (g 2) = c) (h3 : gl_r F (g 3) = d) (h4 : gl_r F (g 4) = e) : (fun i => if i < 5 then some (gl_r F (g i)) else none) = va_up (va_up (va_up (va_up (va_up (fun _ => none) 0 (some a)) 1 (some b)) 2 (some c)) 3 (some d)) 4 (some e) := by
  funext i
  unfold va_up
  subst h0 h1 h2 h3 h4
  by_cases h : i < 5
  · rcases (show i = 0 ∨ i = 1 ∨ i = 2 ∨ i = 3 ∨ i = 4 by omega) with rfl | rfl | rfl | rfl | rfl <;> rfl
  · rw [if_neg h, if_neg (by omega), if_neg (by omega), if_neg (by omega), if_neg (by omega), if_neg (by omega)]
set_option maxRecDepth 100000 in
set_option maxHeartbeats 8000000 in
theorem ctX2_init (K : gk_K)  : gk_Kt K yX2_init wsX2_init rmX2_init 2 [.int 0, .int 0, .null] LHist MG 91 1980 := by
  refine gk_met (cc := cX2_init) (maxL := 2) (fun h0 => [some (.ref h0), none]) (plainFor_of_name (by decide)) rfl rfl (by decide) (fun h0 => rfl) (fun V hV C => ?_)
  subst hV
  refine gk_aload_0 (pc := 0) C dX2_init_0 ?_
  refine gk_objInit (pc := 1) C dX2_init_1 (by decide +kernel) (by decide +kernel) (by decide +kernel) ⟨(Nat.le_of_ble_eq_true rfl), (Nat.le_of_ble_eq_true rfl)⟩ ?_
  refine gk_aload_0 (pc := 4) C dX2_init_4 ?_
  refine gk_iconst (pc := 5) (nI 5) C dX2_init_5 (by decide +kernel) ?_
  refine gk_anewa (pc := 6) (n := 5) C dX2_init_6 (by decide +kernel) (by omega) (Nat.le_of_ble_eq_true rfl) (Nat.le_of_ble_eq_true rfl) (fun q1 => ?_)
  refine gk_ws (W1 := [(V.2.1, .inr (2, [.int 0, .int 0, .null])), (q1, .inl (V.1.2.2.2, 5, .inr (.inr (.inr (.inr (fun _ => none))))))]) rfl ?_
  refine gk_putF (pc := 9) (q0 := 0) C dX2_init_9 pX2_init_11 rfl (Nat.le_of_ble_eq_true rfl) rfl rfl ?_
  refine gk_ws (W1 := [(V.2.1, .inr (2, [.int 0, .int 0, .ref q1])), (q1, .inl (V.1.2.2.2, 5, .inr (.inr (.inr (.inr (fun _ => none))))))]) rfl ?_
  refine gk_iconst (pc := 12) (nI 0) C dX2_init_12 (by decide +kernel) ?_
  refine gk_istore_1 (pc := 13) C dX2_init_13 ?_
  refine gk_iload_1 (pc := 14) C dX2_init_14 ?_
  refine gk_iconst (pc := 15) (nI 5) C dX2_init_15 (by decide +kernel) ?_
  refine gk_icmp_ge (pc := 16) 38 C dX2_init_16 rfl (fun h => absurd h (by decide)) (fun _ => ?_)
  refine gk_aload_0 (pc := 19) C dX2_init_19 ?_
  refine gk_get (pc := 20) (q0 := 0) (k := 2) C dX2_init_20 fX2_init_11 rfl rfl ?_
  refine gk_iload_1 (pc := 23) C dX2_init_23 ?_
  refine gk_new (pc := 24) (ci := 3) (Cl := RX3) (T := TX3) (N := 4) (fs := [.int 0, .null, .null, .null]) tyX3 C dX2_init_24 rfl (by decide +kernel) tyX3_ok (by decide +kernel) (by decide +kernel) (by decide +kernel) vfX3 (Nat.le_of_ble_eq_true rfl) (Nat.le_of_ble_eq_true rfl) (fun p0 => ?_)
  refine gk_dupR (pc := 27) C dX2_init_27 ?_
  refine gk_callL (pc := 28) (layc := LH) (Mc := (fun i => MG (756 + i))) 2 (ctX3_init V.1 (M := fun i => MG (756 + i)) (fun i hi => MG_h 2 i (by omega) hi)) C dX2_init_28 gX2_init_X3_init rfl (by decide +kernel) (by decide +kernel) (by decide +kernel) rfl hdX3_init ⟨rfl, rfl, (Nat.le_of_ble_eq_true rfl), (Nat.le_of_ble_eq_true rfl)⟩ ⟨(Nat.le_of_ble_eq_true rfl), (Nat.le_of_ble_eq_true rfl)⟩ (Nat.le_of_ble_eq_true rfl) rfl (by decide +kernel) (fun r0 er0 => ?_)
  subst er0
  refine gk_ws (W1 := [(V.2.1, .inr (2, [.int 0, .int 0, .ref q1])), (q1, .inl (V.1.2.2.2, 5, .inr (.inr (.inr (.inr (fun _ => none))))))] ++ gl_w (gk_F V.1 r0) LH (fun i => MG (756 + i))) rfl ?_
  refine gk_aast (pc := 31) (q0 := 1) (qk := 2) (v := r0 0) 0 C dX2_init_31 rfl rfl rfl (by omega) (by omega) ?_
  refine gk_ws (W1 := [(V.2.1, .inr (2, [.int 0, .int 0, .ref q1])), (q1, .inl (V.1.2.2.2, 5, .inr (.inr (.inr (.inr (va_up (fun _ => none) 0 (some (r0 0))))))))] ++ gl_w (gk_F V.1 r0) LH (fun i => MG (756 + i))) rfl ?_
  refine gk_iincN_1 (pc := 32) (v := 1) (by decide) C dX2_init_32 ?_
  refine gk_goto (pc := 35) 14 C dX2_init_35 rfl ?_
  refine gk_iload_1 (pc := 14) C dX2_init_14 ?_
  refine gk_iconst (pc := 15) (nI 5) C dX2_init_15 (by decide +kernel) ?_
  refine gk_icmp_ge (pc := 16) 38 C dX2_init_16 rfl (fun h => absurd h (by decide)) (fun _ => ?_)
  refine gk_aload_0 (pc := 19) C dX2_init_19 ?_
  refine gk_get (pc := 20) (q0 := 0) (k := 2) C dX2_init_20 fX2_init_11 rfl rfl ?_
  refine gk_iload_1 (pc := 23) C dX2_init_23 ?_
  refine gk_new (pc := 24) (ci := 3) (Cl := RX3) (T := TX3) (N := 4) (fs := [.int 0, .null, .null, .null]) tyX3 C dX2_init_24 rfl (by decide +kernel) tyX3_ok (by decide +kernel) (by decide +kernel) (by decide +kernel) vfX3 (Nat.le_of_ble_eq_true rfl) (Nat.le_of_ble_eq_true rfl) (fun p1 => ?_)
  refine gk_dupR (pc := 27) C dX2_init_27 ?_
  refine gk_callL (pc := 28) (layc := LH) (Mc := (fun i => MG (1134 + i))) 20 (ctX3_init V.1 (M := fun i => MG (1134 + i)) (fun i hi => MG_h 3 i (by omega) hi)) C dX2_init_28 gX2_init_X3_init rfl (by decide +kernel) (by decide +kernel) (by decide +kernel) rfl hdX3_init ⟨rfl, rfl, (Nat.le_of_ble_eq_true rfl), (Nat.le_of_ble_eq_true rfl)⟩ ⟨(Nat.le_of_ble_eq_true rfl), (Nat.le_of_ble_eq_true rfl)⟩ (Nat.le_of_ble_eq_true rfl) rfl (by decide +kernel) (fun r1 er1 => ?_)
  subst er1
  refine gk_ws (W1 := [(V.2.1, .inr (2, [.int 0, .int 0, .ref q1])), (q1, .inl (V.1.2.2.2, 5, .inr (.inr (.inr (.inr (va_up (fun _ => none) 0 (some (r0 0))))))))] ++ gl_w (gk_F V.1 r0) LH (fun i => MG (756 + i)) ++ gl_w (gk_F V.1 r1) LH (fun i => MG (1134 + i))) rfl ?_
  refine gk_aast (pc := 31) (q0 := 1) (qk := 20) (v := r1 0) 1 C dX2_init_31 rfl rfl rfl (by omega) (by omega) ?_
  refine gk_ws (W1 := [(V.2.1, .inr (2, [.int 0, .int 0, .ref q1])), (q1, .inl (V.1.2.2.2, 5, .inr (.inr (.inr (.inr (va_up (va_up (fun _ => none) 0 (some (r0 0))) 1 (some (r1 0))))))))] ++ gl_w (gk_F V.1 r0) LH (fun i => MG (756 + i)) ++ gl_w (gk_F V.1 r1) LH (fun i => MG (1134 + i))) rfl ?_
  refine gk_iincN_1 (pc := 32) (v := 1) (by decide) C dX2_init_32 ?_
  refine gk_goto (pc := 35) 14 C dX2_init_35 rfl ?_
  refine gk_iload_1 (pc := 14) C dX2_init_14 ?_
  refine gk_iconst (pc := 15) (nI 5) C dX2_init_15 (by decide +kernel) ?_
  refine gk_icmp_ge (pc := 16) 38 C dX2_init_16 rfl (fun h => absurd h (by decide)) (fun _ => ?_)
  refine gk_aload_0 (pc := 19) C dX2_init_19 ?_
  refine gk_get (pc := 20) (q0 := 0) (k := 2) C dX2_init_20 fX2_init_11 rfl rfl ?_
  refine gk_iload_1 (pc := 23) C dX2_init_23 ?_
  refine gk_new (pc := 24) (ci := 3) (Cl := RX3) (T := TX3) (N := 4) (fs := [.int 0, .null, .null, .null]) tyX3 C dX2_init_24 rfl (by decide +kernel) tyX3_ok (by decide +kernel) (by decide +kernel) (by decide +kernel) vfX3 (Nat.le_of_ble_eq_true rfl) (Nat.le_of_ble_eq_true rfl) (fun p2 => ?_)
  refine gk_dupR (pc := 27) C dX2_init_27 ?_
  refine gk_callL (pc := 28) (layc := LH) (Mc := (fun i => MG (1512 + i))) 38 (ctX3_init V.1 (M := fun i => MG (1512 + i)) (fun i hi => MG_h 4 i (by omega) hi)) C dX2_init_28 gX2_init_X3_init rfl (by decide +kernel) (by decide +kernel) (by decide +kernel) rfl hdX3_init ⟨rfl, rfl, (Nat.le_of_ble_eq_true rfl), (Nat.le_of_ble_eq_true rfl)⟩ ⟨(Nat.le_of_ble_eq_true rfl), (Nat.le_of_ble_eq_true rfl)⟩ (Nat.le_of_ble_eq_true rfl) rfl (by decide +kernel) (fun r2 er2 => ?_)
  subst er2
  refine gk_ws (W1 := [(V.2.1, .inr (2, [.int 0, .int 0, .ref q1])), (q1, .inl (V.1.2.2.2, 5, .inr (.inr (.inr (.inr (va_up (va_up (fun _ => none) 0 (some (r0 0))) 1 (some (r1 0))))))))] ++ gl_w (gk_F V.1 r0) LH (fun i => MG (756 + i)) ++ gl_w (gk_F V.1 r1) LH (fun i => MG (1134 + i)) ++ gl_w (gk_F V.1 r2) LH (fun i => MG (1512 + i))) rfl ?_
  refine gk_aast (pc := 31) (q0 := 1) (qk := 38) (v := r2 0) 2 C dX2_init_31 rfl rfl rfl (by omega) (by omega) ?_
  refine gk_ws (W1 := [(V.2.1, .inr (2, [.int 0, .int 0, .ref q1])), (q1, .inl (V.1.2.2.2, 5, .inr (.inr (.inr (.inr (va_up (va_up (va_up (fun _ => none) 0 (some (r0 0))) 1 (some (r1 0))) 2 (some (r2 0))))))))] ++ gl_w (gk_F V.1 r0) LH (fun i => MG (756 + i)) ++ gl_w (gk_F V.1 r1) LH (fun i => MG (1134 + i)) ++ gl_w (gk_F V.1 r2) LH (fun i => MG (1512 + i))) rfl ?_
  refine gk_iincN_1 (pc := 32) (v := 1) (by decide) C dX2_init_32 ?_
  refine gk_goto (pc := 35) 14 C dX2_init_35 rfl ?_
  refine gk_iload_1 (pc := 14) C dX2_init_14 ?_
  refine gk_iconst (pc := 15) (nI 5) C dX2_init_15 (by decide +kernel) ?_
  refine gk_icmp_ge (pc := 16) 38 C dX2_init_16 rfl (fun h => absurd h (by decide)) (fun _ => ?_)
  refine gk_aload_0 (pc := 19) C dX2_init_19 ?_
  refine gk_get (pc := 20) (q0 := 0) (k := 2) C dX2_init_20 fX2_init_11 rfl rfl ?_
  refine gk_iload_1 (pc := 23) C dX2_init_23 ?_
  refine gk_new (pc := 24) (ci := 3) (Cl := RX3) (T := TX3) (N := 4) (fs := [.int 0, .null, .null, .null]) tyX3 C dX2_init_24 rfl (by decide +kernel) tyX3_ok (by decide +kernel) (by decide +kernel) (by decide +kernel) vfX3 (Nat.le_of_ble_eq_true rfl) (Nat.le_of_ble_eq_true rfl) (fun p3 => ?_)
  refine gk_dupR (pc := 27) C dX2_init_27 ?_
  refine gk_callL (pc := 28) (layc := LH) (Mc := (fun i => MG (1890 + i))) 56 (ctX3_init V.1 (M := fun i => MG (1890 + i)) (fun i hi => MG_h 5 i (by omega) hi)) C dX2_init_28 gX2_init_X3_init rfl (by decide +kernel) (by decide +kernel) (by decide +kernel) rfl hdX3_init ⟨rfl, rfl, (Nat.le_of_ble_eq_true rfl), (Nat.le_of_ble_eq_true rfl)⟩ ⟨(Nat.le_of_ble_eq_true rfl), (Nat.le_of_ble_eq_true rfl)⟩ (Nat.le_of_ble_eq_true rfl) rfl (by decide +kernel) (fun r3 er3 => ?_)
  subst er3
  refine gk_ws (W1 := [(V.2.1, .inr (2, [.int 0, .int 0, .ref q1])), (q1, .inl (V.1.2.2.2, 5, .inr (.inr (.inr (.inr (va_up (va_up (va_up (fun _ => none) 0 (some (r0 0))) 1 (some (r1 0))) 2 (some (r2 0))))))))] ++ gl_w (gk_F V.1 r0) LH (fun i => MG (756 + i)) ++ gl_w (gk_F V.1 r1) LH (fun i => MG (1134 + i)) ++ gl_w (gk_F V.1 r2) LH (fun i => MG (1512 + i)) ++ gl_w (gk_F V.1 r3) LH (fun i => MG (1890 + i))) rfl ?_
  refine gk_aast (pc := 31) (q0 := 1) (qk := 56) (v := r3 0) 3 C dX2_init_31 rfl rfl rfl (by omega) (by omega) ?_
  refine gk_ws (W1 := [(V.2.1, .inr (2, [.int 0, .int 0, .ref q1])), (q1, .inl (V.1.2.2.2, 5, .inr (.inr (.inr (.inr (va_up (va_up (va_up (va_up (fun _ => none) 0 (some (r0 0))) 1 (some (r1 0))) 2 (some (r2 0))) 3 (some (r3 0))))))))] ++ gl_w (gk_F V.1 r0) LH (fun i => MG (756 + i)) ++ gl_w (gk_F V.1 r1) LH (fun i => MG (1134 + i)) ++ gl_w (gk_F V.1 r2) LH (fun i => MG (1512 + i)) ++ gl_w (gk_F V.1 r3) LH (fun i => MG (1890 + i))) rfl ?_
  refine gk_iincN_1 (pc := 32) (v := 1) (by decide) C dX2_init_32 ?_
  refine gk_goto (pc := 35) 14 C dX2_init_35 rfl ?_
  refine gk_iload_1 (pc := 14) C dX2_init_14 ?_
  refine gk_iconst (pc := 15) (nI 5) C dX2_init_15 (by decide +kernel) ?_
  refine gk_icmp_ge (pc := 16) 38 C dX2_init_16 rfl (fun h => absurd h (by decide)) (fun _ => ?_)
  refine gk_aload_0 (pc := 19) C dX2_init_19 ?_
  refine gk_get (pc := 20) (q0 := 0) (k := 2) C dX2_init_20 fX2_init_11 rfl rfl ?_
  refine gk_iload_1 (pc := 23) C dX2_init_23 ?_
  refine gk_new (pc := 24) (ci := 3) (Cl := RX3) (T := TX3) (N := 4) (fs := [.int 0, .null, .null, .null]) tyX3 C dX2_init_24 rfl (by decide +kernel) tyX3_ok (by decide +kernel) (by decide +kernel) (by decide +kernel) vfX3 (Nat.le_of_ble_eq_true rfl) (Nat.le_of_ble_eq_true rfl) (fun p4 => ?_)
  refine gk_dupR (pc := 27) C dX2_init_27 ?_
  refine gk_callL (pc := 28) (layc := LH) (Mc := (fun i => MG (2268 + i))) 74 (ctX3_init V.1 (M := fun i => MG (2268 + i)) (fun i hi => MG_h 6 i (by omega) hi)) C dX2_init_28 gX2_init_X3_init rfl (by decide +kernel) (by decide +kernel) (by decide +kernel) rfl hdX3_init ⟨rfl, rfl, (Nat.le_of_ble_eq_true rfl), (Nat.le_of_ble_eq_true rfl)⟩ ⟨(Nat.le_of_ble_eq_true rfl), (Nat.le_of_ble_eq_true rfl)⟩ (Nat.le_of_ble_eq_true rfl) rfl (by decide +kernel) (fun r4 er4 => ?_)
  subst er4
  refine gk_ws (W1 := [(V.2.1, .inr (2, [.int 0, .int 0, .ref q1])), (q1, .inl (V.1.2.2.2, 5, .inr (.inr (.inr (.inr (va_up (va_up (va_up (va_up (fun _ => none) 0 (some (r0 0))) 1 (some (r1 0))) 2 (some (r2 0))) 3 (some (r3 0))))))))] ++ gl_w (gk_F V.1 r0) LH (fun i => MG (756 + i)) ++ gl_w (gk_F V.1 r1) LH (fun i => MG (1134 + i)) ++ gl_w (gk_F V.1 r2) LH (fun i => MG (1512 + i)) ++ gl_w (gk_F V.1 r3) LH (fun i => MG (1890 + i)) ++ gl_w (gk_F V.1 r4) LH (fun i => MG (2268 + i))) rfl ?_
  refine gk_aast (pc := 31) (q0 := 1) (qk := 74) (v := r4 0) 4 C dX2_init_31 rfl rfl rfl (by omega) (by omega) ?_
  refine gk_ws (W1 := [(V.2.1, .inr (2, [.int 0, .int 0, .ref q1])), (q1, .inl (V.1.2.2.2, 5, .inr (.inr (.inr (.inr (va_up (va_up (va_up (va_up (va_up (fun _ => none) 0 (some (r0 0))) 1 (some (r1 0))) 2 (some (r2 0))) 3 (some (r3 0))) 4 (some (r4 0))))))))] ++ gl_w (gk_F V.1 r0) LH (fun i => MG (756 + i)) ++ gl_w (gk_F V.1 r1) LH (fun i => MG (1134 + i)) ++ gl_w (gk_F V.1 r2) LH (fun i => MG (1512 + i)) ++ gl_w (gk_F V.1 r3) LH (fun i => MG (1890 + i)) ++ gl_w (gk_F V.1 r4) LH (fun i => MG (2268 + i))) rfl ?_
  refine gk_iincN_1 (pc := 32) (v := 1) (by decide) C dX2_init_32 ?_
  refine gk_goto (pc := 35) 14 C dX2_init_35 rfl ?_
  refine gk_iload_1 (pc := 14) C dX2_init_14 ?_
  refine gk_iconst (pc := 15) (nI 5) C dX2_init_15 (by decide +kernel) ?_
  refine gk_icmp_ge (pc := 16) 38 C dX2_init_16 rfl (fun _ => ?_) (fun h => absurd (by decide) h)
  refine gk_vret (pc := 38) C dX2_init_38 (fun j => if j = 0 then V.2.1 else if j = 1 then q1 else if j < 20 then r0 (j - 2) else if j < 38 then r1 (j - 20) else if j < 56 then r2 (j - 38) else if j < 74 then r3 (j - 56) else r4 (j - 74)) rfl (gk_eq rfl (fun j c hj => ?_)) rfl rfl
  have hl : j < 92 := (List.getElem?_eq_some_iff.mp hj).1
  rcases (show j = 0 ∨ j = 1 ∨ j = 2 ∨ j = 3 ∨ j = 4 ∨ j = 5 ∨ j = 6 ∨ j = 7 ∨ j = 8 ∨ j = 9 ∨ j = 10 ∨ j = 11 ∨ j = 12 ∨ j = 13 ∨ j = 14 ∨ j = 15 ∨ j = 16 ∨ j = 17 ∨ j = 18 ∨ j = 19 ∨ j = 20 ∨ j = 21 ∨ j = 22 ∨ j = 23 ∨ j = 24 ∨ j = 25 ∨ j = 26 ∨ j = 27 ∨ j = 28 ∨ j = 29 ∨ j = 30 ∨ j = 31 ∨ j = 32 ∨ j = 33 ∨ j = 34 ∨ j = 35 ∨ j = 36 ∨ j = 37 ∨ j = 38 ∨ j = 39 ∨ j = 40 ∨ j = 41 ∨ j = 42 ∨ j = 43 ∨ j = 44 ∨ j = 45 ∨ j = 46 ∨ j = 47 ∨ j = 48 ∨ j = 49 ∨ j = 50 ∨ j = 51 ∨ j = 52 ∨ j = 53 ∨ j = 54 ∨ j = 55 ∨ j = 56 ∨ j = 57 ∨ j = 58 ∨ j = 59 ∨ j = 60 ∨ j = 61 ∨ j = 62 ∨ j = 63 ∨ j = 64 ∨ j = 65 ∨ j = 66 ∨ j = 67 ∨ j = 68 ∨ j = 69 ∨ j = 70 ∨ j = 71 ∨ j = 72 ∨ j = 73 ∨ j = 74 ∨ j = 75 ∨ j = 76 ∨ j = 77 ∨ j = 78 ∨ j = 79 ∨ j = 80 ∨ j = 81 ∨ j = 82 ∨ j = 83 ∨ j = 84 ∨ j = 85 ∨ j = 86 ∨ j = 87 ∨ j = 88 ∨ j = 89 ∨ j = 90 ∨ j = 91 by omega) with rfl | rfl | rfl | rfl | rfl | rfl | rfl | rfl | rfl | rfl | rfl | rfl | rfl | rfl | rfl | rfl | rfl | rfl | rfl | rfl | rfl | rfl | rfl | rfl | rfl | rfl | rfl | rfl | rfl | rfl | rfl | rfl | rfl | rfl | rfl | rfl | rfl | rfl | rfl | rfl | rfl | rfl | rfl | rfl | rfl | rfl | rfl | rfl | rfl | rfl | rfl | rfl | rfl | rfl | rfl | rfl | rfl | rfl | rfl | rfl | rfl | rfl | rfl | rfl | rfl | rfl | rfl | rfl | rfl | rfl | rfl | rfl | rfl | rfl | rfl | rfl | rfl | rfl | rfl | rfl | rfl | rfl | rfl | rfl | rfl | rfl | rfl | rfl | rfl | rfl | rfl | rfl
  · cases hj; rfl
  · cases hj; refine congrArg some (Prod.ext rfl ?_); simp only [gl_e]; rw [gk_r5]; rfl
  · cases hj; rfl
  · cases hj; rfl
  · cases hj; rfl
  · cases hj; rfl
  · cases hj; rfl
  · cases hj; rfl
  · cases hj; rfl
  · cases hj; rfl
  · cases hj; rfl
  · cases hj; rfl
  · cases hj; rfl
  · cases hj; rfl
  · cases hj; rfl
  · cases hj; rfl
  · cases hj; rfl
  · cases hj; rfl
  · cases hj; rfl
  · cases hj; rfl
  · cases hj; rfl
  · cases hj; rfl
  · cases hj; rfl
  · cases hj; rfl
  · cases hj; rfl
  · cases hj; rfl
  · cases hj; rfl
  · cases hj; rfl
  · cases hj; rfl
  · cases hj; rfl
  · cases hj; rfl
  · cases hj; rfl
  · cases hj; rfl
  · cases hj; rfl
  · cases hj; rfl
  · cases hj; rfl
  · cases hj; rfl
  · cases hj; rfl
  · cases hj; rfl
  · cases hj; rfl
  · cases hj; rfl
  · cases hj; rfl
  · cases hj; rfl
  · cases hj; rfl
  · cases hj; rfl
  · cases hj; rfl
  · cases hj; rfl
  · cases hj; rfl
  · cases hj; rfl
  · cases hj; rfl
  · cases hj; rfl
  · cases hj; rfl
  · cases hj; rfl
  · cases hj; rfl
  · cases hj; rfl
  · cases hj; rfl
  · cases hj; rfl
  · cases hj; rfl
  · cases hj; rfl
  · cases hj; rfl
  · cases hj; rfl
  · cases hj; rfl
  · cases hj; rfl
  · cases hj; rfl
  · cases hj; rfl
  · cases hj; rfl
  · cases hj; rfl
  · cases hj; rfl
  · cases hj; rfl
  · cases hj; rfl
  · cases hj; rfl
  · cases hj; rfl
  · cases hj; rfl
  · cases hj; rfl
  · cases hj; rfl
  · cases hj; rfl
  · cases hj; rfl
  · cases hj; rfl
  · cases hj; rfl
  · cases hj; rfl
  · cases hj; rfl
  · cases hj; rfl
  · cases hj; rfl
  · cases hj; rfl
  · cases hj; rfl
  · cases hj; rfl
  · cases hj; rfl
  · cases hj; rfl
  · cases hj; rfl
  · cases hj; rfl
  · cases hj; rfl
  · cases hj; rfl
