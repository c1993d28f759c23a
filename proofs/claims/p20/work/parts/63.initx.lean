def gl_bd (n : Nat) : gl_Ce → Bool
  | .inl _ => true
  | .inr (.inl (_, fs)) => fs.all (fun x => match x with | .inl _ => true | .inr c => decide (c < n))
  | .inr (.inr (.inl (m, g))) => (List.range m).all fun k => decide (g k < n)
  | .inr (.inr (.inr _)) => true
theorem gl_e_r {K : gk_K} {r r' : Nat → Nat} {M : Nat → Int32} {n : Nat} (h : ∀ j, j < n → r j = r' j) : ∀ {c : gl_Ce}, gl_bd n c = true → gl_e (gk_F K r) M c = gl_e (gk_F K r') M c
  | .inl _, _ => rfl
  | .inr (.inl (ci, fs)), hb => by
    have e : fs.map (gl_v (gk_F K r) M) = fs.map (gl_v (gk_F K r') M) := by
      apply List.map_congr_left
      intro x hx
      have h1 := List.all_eq_true.mp hb x hx
      cases x with
      | inl i => rfl
      | inr c => exact congrArg Value.ref (h c (of_decide_eq_true h1))
    simp only [gl_e]
    rw [e]
  | .inr (.inr (.inr _)), _ => rfl
  | .inr (.inr (.inl (m, g))), hb => by
    have e : (fun i => if i < m then some (gl_r (gk_F K r) (g i)) else none) = (fun i => if i < m then some (gl_r (gk_F K r') (g i)) else none) := by
      funext i
      by_cases hi : i < m
      · rw [if_pos hi, if_pos hi]
        have h1 := List.all_eq_true.mp hb i (List.mem_range.mpr hi)
        exact congrArg some (h _ (of_decide_eq_true h1))
      · rw [if_neg hi, if_neg hi]
    simp only [gl_e]
    rw [e]
    rfl
theorem gk_base2 {F : gl_F} {l : List gl_Ce} {M : Nat → Int32} {c0 c1 : gl_Ce} {x y : Nat × va_E} (h0 : l[0]? = some c0) (h1 : l[1]? = some c1) (hx : x = (gl_r F 0, gl_e F M c0)) (hy : y = (gl_r F 1, gl_e F M c1)) : [x, y] = (gl_w F l M).take 2 := by
  subst hx hy
  have hl := (List.getElem?_eq_some_iff.mp h1).1
  apply List.ext_getElem?
  intro i
  by_cases hi : i < 2
  · rw [List.getElem?_take_of_lt hi]
    rcases (show i = 0 ∨ i = 1 by omega) with rfl | rfl
    · exact (gl_w_at h0).symm
    · exact (gl_w_at h1).symm
  · rw [List.getElem?_eq_none (by simp; omega), List.getElem?_eq_none (by simp; omega)]
theorem gk_seg {K : gk_K} {r r1 : Nat → Nat} {L1 L : List gl_Ce} {M1 M : Nat → Int32} {W : va_W} (q o : Nat) (hW : W = (gl_w (gk_F K r) L M).take q) (hq : q ≤ L.length) (hr : ∀ i, i < L1.length → r (q + i) = r1 i) (hb : L1.all (gl_bd L1.length) = true) (he : gl_emb (fun i => q + i) (fun i => o + i) L1 L = true) (hM : ∀ i, M (o + i) = M1 i) : W ++ gl_w (gk_F K r1) L1 M1 = (gl_w (gk_F K r) L M).take (q + L1.length) := by
  subst hW
  have hl : ((gl_w (gk_F K r) L M).take q).length = q := by rw [List.length_take, gl_w_len]; omega
  apply List.ext_getElem?
  intro i
  by_cases hi : i < q
  · rw [List.getElem?_append_left (by omega), List.getElem?_take_of_lt hi, List.getElem?_take_of_lt (by omega)]
  · rw [List.getElem?_append_right (by omega), hl]
    by_cases h2 : i - q < L1.length
    · have hc1 := List.getElem?_eq_getElem h2
      obtain ⟨c2, h3, h4⟩ := gl_emb_at he hc1
      rw [gl_w_at hc1, List.getElem?_take_of_lt (by omega)]
      have e : i = q + (i - q) := by omega
      rw [show (gl_w (gk_F K r) L M)[i]? = (gl_w (gk_F K r) L M)[q + (i - q)]? from congrArg (fun z => (gl_w (gk_F K r) L M)[z]?) e, gl_w_at h3]
      refine congrArg some (Prod.ext (hr (i - q) h2).symm ?_)
      show gl_e (gk_F K r1) M1 _ = gl_e (gk_F K r) M c2
      rw [← gl_cc_e (F := gk_F K r) (S := M1) (C := M) h4 (fun k i _ => hM i)]
      exact gl_e_r (r' := fun j => r (q + j)) (fun j hj => (hr j hj).symm) (List.all_eq_true.mp hb _ (List.getElem_mem h2))
    · rw [List.getElem?_eq_none (by rw [gl_w_len]; omega), List.getElem?_eq_none (by rw [List.length_take]; omega)]

theorem pX2_init_11 : gk_ff wsX2_init RX2 11 2 2 (.array (.object "GoalLifts$House")) := ⟨RX2, TX2, 3, RX2, tyX2, rfl, by decide, by decide +kernel, by decide +kernel, rfl, tyX2_ok, nmX2, rfl, rfl, rfl⟩
theorem fX2_init_11 : gl_fl wsX2_init RX2 11 2 2 := ⟨RX2, TX2, 3, RX2, rfl, by decide, by decide +kernel, by decide +kernel, rfl⟩
theorem MG_h (h i : Nat) (hh : h < 7) (hi : i < 378) : MG (378 * h + i) = MH i := by
  unfold MG
  rw [if_pos (by omega)]
  congr 1
  omega
theorem gk_r5 {a b c d e : Nat} {F : gl_F} {g : Nat → Nat} (h0 : gl_r F (g 0) = a) (h1 : gl_r F (g 1) = b) (h2 : gl_r F (g 2) = c) (h3 : gl_r F (g 3) = d) (h4 : gl_r F (g 4) = e) : (fun i => if i < 5 then some (gl_r F (g i)) else none) = va_up (va_up (va_up (va_up (va_up (fun _ => none) 0 (some a)) 1 (some b)) 2 (some c)) 3 (some d)) 4 (some e) := by
  funext i
  unfold va_up
  subst h0 h1 h2 h3 h4
  by_cases h : i < 5
  · rcases (show i = 0 ∨ i = 1 ∨ i = 2 ∨ i = 3 ∨ i = 4 by omega) with rfl | rfl | rfl | rfl | rfl <;> rfl
  · rw [if_neg h, if_neg (by omega), if_neg (by omega), if_neg (by omega), if_neg (by omega), if_neg (by omega)]
set_option maxRecDepth 100000 in
set_option maxHeartbeats 8000000 in
theorem ctX2_init (K : gk_K)  : gk_Kt K yX2_init wsX2_init rmX2_init 2 [.int 0, .int 0, .null] LHist MG 91 1980 := by
  refine gk_met (cc := cX2_init) (maxL := 2) (fun h0 => [some (.ref h0), none]) (plainFor_of_name (by decide)) rfl rfl (by decide) (fun h0 => rfl) (fun V hV C => ?_)
  subst hV
  refine gk_aload_0 (pc := 0) C dX2_init_0 ?_
  refine gk_objInit (pc := 1) C dX2_init_1 (by decide +kernel) (by decide +kernel) (by decide +kernel) ⟨(Nat.le_of_ble_eq_true rfl), (Nat.le_of_ble_eq_true rfl)⟩ ?_
  refine gk_aload_0 (pc := 4) C dX2_init_4 ?_
  refine gk_iconst (pc := 5) (nI 5) C dX2_init_5 (by decide +kernel) ?_
  refine gk_anewa (pc := 6) (n := 5) C dX2_init_6 (by decide +kernel) (by omega) (Nat.le_of_ble_eq_true rfl) (Nat.le_of_ble_eq_true rfl) (fun q1 => ?_)
  refine gk_ws (W1 := [(V.2.1, .inr (2, [.int 0, .int 0, .null])), (q1, .inl (V.1.2.2.2.1, 5, .inr (.inr (.inr (.inr (fun _ => none))))))]) rfl ?_
  refine gk_putF (pc := 9) (q0 := 0) C dX2_init_9 pX2_init_11 rfl (Nat.le_of_ble_eq_true rfl) rfl rfl ?_
  refine gk_ws (W1 := [(V.2.1, .inr (2, [.int 0, .int 0, .ref q1])), (q1, .inl (V.1.2.2.2.1, 5, .inr (.inr (.inr (.inr (fun _ => none))))))]) rfl ?_
  refine gk_iconst (pc := 12) (nI 0) C dX2_init_12 (by decide +kernel) ?_
  refine gk_istore_1 (pc := 13) C dX2_init_13 ?_
  refine gk_iload_1 (pc := 14) C dX2_init_14 ?_
  refine gk_iconst (pc := 15) (nI 5) C dX2_init_15 (by decide +kernel) ?_
  refine gk_icmp_ge (pc := 16) 38 C dX2_init_16 rfl (fun h => absurd h (by decide)) (fun _ => ?_)
  refine gk_aload_0 (pc := 19) C dX2_init_19 ?_
  refine gk_get (pc := 20) (q0 := 0) (k := 2) C dX2_init_20 fX2_init_11 rfl rfl ?_
  refine gk_iload_1 (pc := 23) C dX2_init_23 ?_
  refine gk_new (pc := 24) (ci := 3) (Cl := RX3) (T := TX3) (N := 4) (fs := [.int 0, .null, .null, .null]) tyX3 C dX2_init_24 rfl (by decide +kernel) tyX3_ok (by decide +kernel) (by decide +kernel) (by decide +kernel) vfX3 (Nat.le_of_ble_eq_true rfl) (Nat.le_of_ble_eq_true rfl) (fun p0 => ?_)
  refine gk_dupR (pc := 27) C dX2_init_27 ?_
  refine gk_callL (pc := 28) (layc := LH) (Mc := (fun i => MG (756 + i))) 2 (ctX3_init V.1 (M := fun i => MG (756 + i)) (fun i hi => MG_h 2 i (by omega) hi)) C dX2_init_28 gX2_init_X3_init rfl (by decide +kernel) (by decide +kernel) (by decide +kernel) rfl hdX3_init ⟨rfl, rfl, (Nat.le_of_ble_eq_true rfl), (Nat.le_of_ble_eq_true rfl)⟩ ⟨(Nat.le_of_ble_eq_true rfl), (Nat.le_of_ble_eq_true rfl)⟩ (Nat.le_of_ble_eq_true rfl) rfl (by decide +kernel) (fun r0 er0 => ?_)
  subst er0
  refine gk_ws (W1 := [(V.2.1, .inr (2, [.int 0, .int 0, .ref q1])), (q1, .inl (V.1.2.2.2.1, 5, .inr (.inr (.inr (.inr (fun _ => none))))))] ++ gl_w (gk_F V.1 r0) LH (fun i => MG (756 + i))) rfl ?_
  refine gk_aast (pc := 31) (q0 := 1) (qk := 2) (v := r0 0) 0 C dX2_init_31 rfl (gk_mid rfl rfl) rfl (by omega) (by omega) ?_
  refine gk_ws (W1 := [(V.2.1, .inr (2, [.int 0, .int 0, .ref q1])), (q1, .inl (V.1.2.2.2.1, 5, .inr (.inr (.inr (.inr (va_up (fun _ => none) 0 (some (r0 0))))))))] ++ gl_w (gk_F V.1 r0) LH (fun i => MG (756 + i))) rfl ?_
  refine gk_iincN_1 (pc := 32) (v := 1) (by decide) C dX2_init_32 ?_
  refine gk_goto (pc := 35) 14 C dX2_init_35 rfl ?_
  refine gk_iload_1 (pc := 14) C dX2_init_14 ?_
  refine gk_iconst (pc := 15) (nI 5) C dX2_init_15 (by decide +kernel) ?_
  refine gk_icmp_ge (pc := 16) 38 C dX2_init_16 rfl (fun h => absurd h (by decide)) (fun _ => ?_)
  refine gk_aload_0 (pc := 19) C dX2_init_19 ?_
  refine gk_get (pc := 20) (q0 := 0) (k := 2) C dX2_init_20 fX2_init_11 rfl rfl ?_
  refine gk_iload_1 (pc := 23) C dX2_init_23 ?_
  refine gk_new (pc := 24) (ci := 3) (Cl := RX3) (T := TX3) (N := 4) (fs := [.int 0, .null, .null, .null]) tyX3 C dX2_init_24 rfl (by decide +kernel) tyX3_ok (by decide +kernel) (by decide +kernel) (by decide +kernel) vfX3 (Nat.le_of_ble_eq_true rfl) (Nat.le_of_ble_eq_true rfl) (fun p1 => ?_)
  refine gk_dupR (pc := 27) C dX2_init_27 ?_
  refine gk_callL (pc := 28) (layc := LH) (Mc := (fun i => MG (1134 + i))) 20 (ctX3_init V.1 (M := fun i => MG (1134 + i)) (fun i hi => MG_h 3 i (by omega) hi)) C dX2_init_28 gX2_init_X3_init rfl (by decide +kernel) (by decide +kernel) (by decide +kernel) rfl hdX3_init ⟨rfl, rfl, (Nat.le_of_ble_eq_true rfl), (Nat.le_of_ble_eq_true rfl)⟩ ⟨(Nat.le_of_ble_eq_true rfl), (Nat.le_of_ble_eq_true rfl)⟩ (Nat.le_of_ble_eq_true rfl) (by simp only [List.length_append, List.length_cons, List.length_nil, gl_w_len]; rfl) (by decide +kernel) (fun r1 er1 => ?_)
  subst er1
  refine gk_ws (W1 := [(V.2.1, .inr (2, [.int 0, .int 0, .ref q1])), (q1, .inl (V.1.2.2.2.1, 5, .inr (.inr (.inr (.inr (va_up (fun _ => none) 0 (some (r0 0))))))))] ++ gl_w (gk_F V.1 r0) LH (fun i => MG (756 + i)) ++ gl_w (gk_F V.1 r1) LH (fun i => MG (1134 + i))) rfl ?_
  refine gk_aast (pc := 31) (q0 := 1) (qk := 20) (v := r1 0) 1 C dX2_init_31 rfl (gk_mid (by simp only [List.length_append, List.length_cons, List.length_nil, gl_w_len]; rfl) rfl) rfl (by omega) (by omega) ?_
  refine gk_ws (W1 := [(V.2.1, .inr (2, [.int 0, .int 0, .ref q1])), (q1, .inl (V.1.2.2.2.1, 5, .inr (.inr (.inr (.inr (va_up (va_up (fun _ => none) 0 (some (r0 0))) 1 (some (r1 0))))))))] ++ gl_w (gk_F V.1 r0) LH (fun i => MG (756 + i)) ++ gl_w (gk_F V.1 r1) LH (fun i => MG (1134 + i))) rfl ?_
  refine gk_iincN_1 (pc := 32) (v := 1) (by decide) C dX2_init_32 ?_
  refine gk_goto (pc := 35) 14 C dX2_init_35 rfl ?_
  refine gk_iload_1 (pc := 14) C dX2_init_14 ?_
  refine gk_iconst (pc := 15) (nI 5) C dX2_init_15 (by decide +kernel) ?_
  refine gk_icmp_ge (pc := 16) 38 C dX2_init_16 rfl (fun h => absurd h (by decide)) (fun _ => ?_)
  refine gk_aload_0 (pc := 19) C dX2_init_19 ?_
  refine gk_get (pc := 20) (q0 := 0) (k := 2) C dX2_init_20 fX2_init_11 rfl rfl ?_
  refine gk_iload_1 (pc := 23) C dX2_init_23 ?_
  refine gk_new (pc := 24) (ci := 3) (Cl := RX3) (T := TX3) (N := 4) (fs := [.int 0, .null, .null, .null]) tyX3 C dX2_init_24 rfl (by decide +kernel) tyX3_ok (by decide +kernel) (by decide +kernel) (by decide +kernel) vfX3 (Nat.le_of_ble_eq_true rfl) (Nat.le_of_ble_eq_true rfl) (fun p2 => ?_)
  refine gk_dupR (pc := 27) C dX2_init_27 ?_
  refine gk_callL (pc := 28) (layc := LH) (Mc := (fun i => MG (1512 + i))) 38 (ctX3_init V.1 (M := fun i => MG (1512 + i)) (fun i hi => MG_h 4 i (by omega) hi)) C dX2_init_28 gX2_init_X3_init rfl (by decide +kernel) (by decide +kernel) (by decide +kernel) rfl hdX3_init ⟨rfl, rfl, (Nat.le_of_ble_eq_true rfl), (Nat.le_of_ble_eq_true rfl)⟩ ⟨(Nat.le_of_ble_eq_true rfl), (Nat.le_of_ble_eq_true rfl)⟩ (Nat.le_of_ble_eq_true rfl) (by simp only [List.length_append, List.length_cons, List.length_nil, gl_w_len]; rfl) (by decide +kernel) (fun r2 er2 => ?_)
  subst er2
  refine gk_ws (W1 := [(V.2.1, .inr (2, [.int 0, .int 0, .ref q1])), (q1, .inl (V.1.2.2.2.1, 5, .inr (.inr (.inr (.inr (va_up (va_up (fun _ => none) 0 (some (r0 0))) 1 (some (r1 0))))))))] ++ gl_w (gk_F V.1 r0) LH (fun i => MG (756 + i)) ++ gl_w (gk_F V.1 r1) LH (fun i => MG (1134 + i)) ++ gl_w (gk_F V.1 r2) LH (fun i => MG (1512 + i))) rfl ?_
  refine gk_aast (pc := 31) (q0 := 1) (qk := 38) (v := r2 0) 2 C dX2_init_31 rfl (gk_mid (by simp only [List.length_append, List.length_cons, List.length_nil, gl_w_len]; rfl) rfl) rfl (by omega) (by omega) ?_
  refine gk_ws (W1 := [(V.2.1, .inr (2, [.int 0, .int 0, .ref q1])), (q1, .inl (V.1.2.2.2.1, 5, .inr (.inr (.inr (.inr (va_up (va_up (va_up (fun _ => none) 0 (some (r0 0))) 1 (some (r1 0))) 2 (some (r2 0))))))))] ++ gl_w (gk_F V.1 r0) LH (fun i => MG (756 + i)) ++ gl_w (gk_F V.1 r1) LH (fun i => MG (1134 + i)) ++ gl_w (gk_F V.1 r2) LH (fun i => MG (1512 + i))) rfl ?_
  refine gk_iincN_1 (pc := 32) (v := 1) (by decide) C dX2_init_32 ?_
  refine gk_goto (pc := 35) 14 C dX2_init_35 rfl ?_
  refine gk_iload_1 (pc := 14) C dX2_init_14 ?_
  refine gk_iconst (pc := 15) (nI 5) C dX2_init_15 (by decide +kernel) ?_
  refine gk_icmp_ge (pc := 16) 38 C dX2_init_16 rfl (fun h => absurd h (by decide)) (fun _ => ?_)
  refine gk_aload_0 (pc := 19) C dX2_init_19 ?_
  refine gk_get (pc := 20) (q0 := 0) (k := 2) C dX2_init_20 fX2_init_11 rfl rfl ?_
  refine gk_iload_1 (pc := 23) C dX2_init_23 ?_
  refine gk_new (pc := 24) (ci := 3) (Cl := RX3) (T := TX3) (N := 4) (fs := [.int 0, .null, .null, .null]) tyX3 C dX2_init_24 rfl (by decide +kernel) tyX3_ok (by decide +kernel) (by decide +kernel) (by decide +kernel) vfX3 (Nat.le_of_ble_eq_true rfl) (Nat.le_of_ble_eq_true rfl) (fun p3 => ?_)
  refine gk_dupR (pc := 27) C dX2_init_27 ?_
  refine gk_callL (pc := 28) (layc := LH) (Mc := (fun i => MG (1890 + i))) 56 (ctX3_init V.1 (M := fun i => MG (1890 + i)) (fun i hi => MG_h 5 i (by omega) hi)) C dX2_init_28 gX2_init_X3_init rfl (by decide +kernel) (by decide +kernel) (by decide +kernel) rfl hdX3_init ⟨rfl, rfl, (Nat.le_of_ble_eq_true rfl), (Nat.le_of_ble_eq_true rfl)⟩ ⟨(Nat.le_of_ble_eq_true rfl), (Nat.le_of_ble_eq_true rfl)⟩ (Nat.le_of_ble_eq_true rfl) (by simp only [List.length_append, List.length_cons, List.length_nil, gl_w_len]; rfl) (by decide +kernel) (fun r3 er3 => ?_)
  subst er3
  refine gk_ws (W1 := [(V.2.1, .inr (2, [.int 0, .int 0, .ref q1])), (q1, .inl (V.1.2.2.2.1, 5, .inr (.inr (.inr (.inr (va_up (va_up (va_up (fun _ => none) 0 (some (r0 0))) 1 (some (r1 0))) 2 (some (r2 0))))))))] ++ gl_w (gk_F V.1 r0) LH (fun i => MG (756 + i)) ++ gl_w (gk_F V.1 r1) LH (fun i => MG (1134 + i)) ++ gl_w (gk_F V.1 r2) LH (fun i => MG (1512 + i)) ++ gl_w (gk_F V.1 r3) LH (fun i => MG (1890 + i))) rfl ?_
  refine gk_aast (pc := 31) (q0 := 1) (qk := 56) (v := r3 0) 3 C dX2_init_31 rfl (gk_mid (by simp only [List.length_append, List.length_cons, List.length_nil, gl_w_len]; rfl) rfl) rfl (by omega) (by omega) ?_
  refine gk_ws (W1 := [(V.2.1, .inr (2, [.int 0, .int 0, .ref q1])), (q1, .inl (V.1.2.2.2.1, 5, .inr (.inr (.inr (.inr (va_up (va_up (va_up (va_up (fun _ => none) 0 (some (r0 0))) 1 (some (r1 0))) 2 (some (r2 0))) 3 (some (r3 0))))))))] ++ gl_w (gk_F V.1 r0) LH (fun i => MG (756 + i)) ++ gl_w (gk_F V.1 r1) LH (fun i => MG (1134 + i)) ++ gl_w (gk_F V.1 r2) LH (fun i => MG (1512 + i)) ++ gl_w (gk_F V.1 r3) LH (fun i => MG (1890 + i))) rfl ?_
  refine gk_iincN_1 (pc := 32) (v := 1) (by decide) C dX2_init_32 ?_
  refine gk_goto (pc := 35) 14 C dX2_init_35 rfl ?_
  refine gk_iload_1 (pc := 14) C dX2_init_14 ?_
  refine gk_iconst (pc := 15) (nI 5) C dX2_init_15 (by decide +kernel) ?_
  refine gk_icmp_ge (pc := 16) 38 C dX2_init_16 rfl (fun h => absurd h (by decide)) (fun _ => ?_)
  refine gk_aload_0 (pc := 19) C dX2_init_19 ?_
  refine gk_get (pc := 20) (q0 := 0) (k := 2) C dX2_init_20 fX2_init_11 rfl rfl ?_
  refine gk_iload_1 (pc := 23) C dX2_init_23 ?_
  refine gk_new (pc := 24) (ci := 3) (Cl := RX3) (T := TX3) (N := 4) (fs := [.int 0, .null, .null, .null]) tyX3 C dX2_init_24 rfl (by decide +kernel) tyX3_ok (by decide +kernel) (by decide +kernel) (by decide +kernel) vfX3 (Nat.le_of_ble_eq_true rfl) (Nat.le_of_ble_eq_true rfl) (fun p4 => ?_)
  refine gk_dupR (pc := 27) C dX2_init_27 ?_
  refine gk_callL (pc := 28) (layc := LH) (Mc := (fun i => MG (2268 + i))) 74 (ctX3_init V.1 (M := fun i => MG (2268 + i)) (fun i hi => MG_h 6 i (by omega) hi)) C dX2_init_28 gX2_init_X3_init rfl (by decide +kernel) (by decide +kernel) (by decide +kernel) rfl hdX3_init ⟨rfl, rfl, (Nat.le_of_ble_eq_true rfl), (Nat.le_of_ble_eq_true rfl)⟩ ⟨(Nat.le_of_ble_eq_true rfl), (Nat.le_of_ble_eq_true rfl)⟩ (Nat.le_of_ble_eq_true rfl) (by simp only [List.length_append, List.length_cons, List.length_nil, gl_w_len]; rfl) (by decide +kernel) (fun r4 er4 => ?_)
  subst er4
  refine gk_ws (W1 := [(V.2.1, .inr (2, [.int 0, .int 0, .ref q1])), (q1, .inl (V.1.2.2.2.1, 5, .inr (.inr (.inr (.inr (va_up (va_up (va_up (va_up (fun _ => none) 0 (some (r0 0))) 1 (some (r1 0))) 2 (some (r2 0))) 3 (some (r3 0))))))))] ++ gl_w (gk_F V.1 r0) LH (fun i => MG (756 + i)) ++ gl_w (gk_F V.1 r1) LH (fun i => MG (1134 + i)) ++ gl_w (gk_F V.1 r2) LH (fun i => MG (1512 + i)) ++ gl_w (gk_F V.1 r3) LH (fun i => MG (1890 + i)) ++ gl_w (gk_F V.1 r4) LH (fun i => MG (2268 + i))) rfl ?_
  refine gk_aast (pc := 31) (q0 := 1) (qk := 74) (v := r4 0) 4 C dX2_init_31 rfl (gk_mid (by simp only [List.length_append, List.length_cons, List.length_nil, gl_w_len]; rfl) rfl) rfl (by omega) (by omega) ?_
  refine gk_ws (W1 := [(V.2.1, .inr (2, [.int 0, .int 0, .ref q1])), (q1, .inl (V.1.2.2.2.1, 5, .inr (.inr (.inr (.inr (va_up (va_up (va_up (va_up (va_up (fun _ => none) 0 (some (r0 0))) 1 (some (r1 0))) 2 (some (r2 0))) 3 (some (r3 0))) 4 (some (r4 0))))))))] ++ gl_w (gk_F V.1 r0) LH (fun i => MG (756 + i)) ++ gl_w (gk_F V.1 r1) LH (fun i => MG (1134 + i)) ++ gl_w (gk_F V.1 r2) LH (fun i => MG (1512 + i)) ++ gl_w (gk_F V.1 r3) LH (fun i => MG (1890 + i)) ++ gl_w (gk_F V.1 r4) LH (fun i => MG (2268 + i))) rfl ?_
  refine gk_iincN_1 (pc := 32) (v := 1) (by decide) C dX2_init_32 ?_
  refine gk_goto (pc := 35) 14 C dX2_init_35 rfl ?_
  refine gk_iload_1 (pc := 14) C dX2_init_14 ?_
  refine gk_iconst (pc := 15) (nI 5) C dX2_init_15 (by decide +kernel) ?_
  refine gk_icmp_ge (pc := 16) 38 C dX2_init_16 rfl (fun _ => ?_) (fun h => absurd (by decide) h)
  refine gk_vret (pc := 38) C dX2_init_38 (fun j => if j = 0 then V.2.1 else if j = 1 then q1 else if j < 20 then r0 (j - 2) else if j < 38 then r1 (j - 20) else if j < 56 then r2 (j - 38) else if j < 74 then r3 (j - 56) else r4 (j - 74)) rfl ?_ rfl rfl
  have b0 : [(V.2.1, .inr (2, [.int 0, .int 0, .ref q1])), (q1, .inl (V.1.2.2.2.1, 5, .inr (.inr (.inr (.inr (va_up (va_up (va_up (va_up (va_up (fun _ => none) 0 (some (r0 0))) 1 (some (r1 0))) 2 (some (r2 0))) 3 (some (r3 0))) 4 (some (r4 0))))))))] = (gl_w (gk_F V.1 (fun j => if j = 0 then V.2.1 else if j = 1 then q1 else if j < 20 then r0 (j - 2) else if j < 38 then r1 (j - 20) else if j < 56 then r2 (j - 38) else if j < 74 then r3 (j - 56) else r4 (j - 74))) LHist MG).take 2 := by
    refine gk_base2 (c0 := .inr (.inl (2, [.inl 2646, .inl 2647, .inr 1]))) (c1 := .inr (.inr (.inl (5, fun k => 2 + 18 * k)))) rfl rfl rfl (Prod.ext rfl ?_)
    simp only [gl_e]
    rw [gk_r5 (a := r0 0) (b := r1 0) (c := r2 0) (d := r3 0) (e := r4 0) rfl rfl rfl rfl rfl]
    rfl
  have b1 := gk_seg (r1 := r0) (L1 := LH) (M1 := fun i => MG (756 + i)) 2 756 b0 (by decide) (fun i hi => by have hi' : i < 18 := hi; show (if 2 + i = 0 then _ else _) = _; rw [if_neg (by omega), if_neg (by omega), if_pos (by omega)]; congr 1; omega) (by decide +kernel) (by decide +kernel) (fun i => rfl)
  have b2 := gk_seg (r1 := r1) (L1 := LH) (M1 := fun i => MG (1134 + i)) 20 1134 b1 (by decide) (fun i hi => by have hi' : i < 18 := hi; show (if 20 + i = 0 then _ else _) = _; rw [if_neg (by omega), if_neg (by omega), if_neg (by omega), if_pos (by omega)]; congr 1; omega) (by decide +kernel) (by decide +kernel) (fun i => rfl)
  have b3 := gk_seg (r1 := r2) (L1 := LH) (M1 := fun i => MG (1512 + i)) 38 1512 b2 (by decide) (fun i hi => by have hi' : i < 18 := hi; show (if 38 + i = 0 then _ else _) = _; rw [if_neg (by omega), if_neg (by omega), if_neg (by omega), if_neg (by omega), if_pos (by omega)]; congr 1; omega) (by decide +kernel) (by decide +kernel) (fun i => rfl)
  have b4 := gk_seg (r1 := r3) (L1 := LH) (M1 := fun i => MG (1890 + i)) 56 1890 b3 (by decide) (fun i hi => by have hi' : i < 18 := hi; show (if 56 + i = 0 then _ else _) = _; rw [if_neg (by omega), if_neg (by omega), if_neg (by omega), if_neg (by omega), if_neg (by omega), if_pos (by omega)]; congr 1; omega) (by decide +kernel) (by decide +kernel) (fun i => rfl)
  have b5 := gk_seg (r1 := r4) (L1 := LH) (M1 := fun i => MG (2268 + i)) 74 2268 b4 (by decide) (fun i hi => by have hi' : i < 18 := hi; show (if 74 + i = 0 then _ else _) = _; rw [if_neg (by omega), if_neg (by omega), if_neg (by omega), if_neg (by omega), if_neg (by omega), if_neg (by omega)]; congr 1; omega) (by decide +kernel) (by decide +kernel) (fun i => rfl)
  exact b5.trans (List.take_of_length_le (by rw [gl_w_len]; decide))
