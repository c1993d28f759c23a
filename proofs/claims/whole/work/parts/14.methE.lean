theorem fX5_groups_7 : gl_fl wsX5_groups RX5 7 5 0 := ⟨RX5, TX5, 5, RX5, rfl, by decide, by decide +kernel, by decide +kernel, rfl⟩
theorem fX5_sumOfCars_7 : gl_fl wsX5_sumOfCars RX5 7 5 0 := ⟨RX5, TX5, 5, RX5, rfl, by decide, by decide +kernel, by decide +kernel, rfl⟩
theorem fX5_waited_7 : gl_fl wsX5_waited RX5 7 5 0 := ⟨RX5, TX5, 5, RX5, rfl, by decide, by decide +kernel, by decide +kernel, rfl⟩
theorem fX5_acts_7 : gl_fl wsX5_acts RX5 7 5 0 := ⟨RX5, TX5, 5, RX5, rfl, by decide, by decide +kernel, by decide +kernel, rfl⟩
theorem fX5_acts_13 : gl_fl wsX5_acts RX5 13 5 1 := ⟨RX5, TX5, 5, RX5, rfl, by decide, by decide +kernel, by decide +kernel, rfl⟩
theorem fX5_acts_22 : gl_fl wsX5_acts RX5 22 5 4 := ⟨RX5, TX5, 5, RX5, rfl, by decide, by decide +kernel, by decide +kernel, rfl⟩
theorem pX5_acts_22 : gl_fp wsX5_acts RX5 22 5 4 := ⟨RX5, TX5, 5, RX5, tyX5, rfl, by decide, by decide +kernel, by decide +kernel, rfl, tyX5_ok, nmX5, rfl, rfl⟩
set_option maxRecDepth 100000 in
set_option maxHeartbeats 4000000 in
theorem ctX5_isOpen (F : gl_F) (M : Nat → Int32) (k : Nat) (hk : k < 40) (hp : ∃ i, i ≤ 3 ∧ M (iK k 2) = nI i) : gl_Ct F LM yX5_isOpen wsX5_isOpen rmX5_isOpen [.ref (gl_r F 0), .int (nI k)] M (some (.int (if sp_open M k then nI 1 else nI 0))) (M) := by
  refine gl_met (cc := cX5_isOpen) (maxL := 2) (ret := some .boolean) [some (.ref (gl_r F 0)), some (.int (nI k))] (plainFor_of_name (by decide)) rfl ok_LM (by simp [Value.category]) (Nat.le_of_ble_eq_true rfl) rfl (fun V hV C => ?_)
  subst hV
  refine gl_aload_0 (pc := 0) C dX5_isOpen_0 ?_
  refine gl_iload_1 (pc := 1) C dX5_isOpen_1 ?_
  refine gl_iconst (pc := 2) (nI 2) C dX5_isOpen_2 (by decide) ?_
  refine gl_callVi (pc := 3) (ctX5_ofCaller V.1 M k 2 (by omega) (by omega)) C dX5_isOpen_3 gX5_isOpen_X5_ofCaller rfl hdX5_ofCaller ⟨rfl, rfl, Nat.le_of_ble_eq_true rfl, Nat.le_of_ble_eq_true rfl⟩ rfl (Nat.le_of_ble_eq_true rfl) rfl rfl rfl ?_
  refine gl_iconst (pc := 6) (nI 1) C dX5_isOpen_6 (by decide) ?_
  refine gl_icmp_gt (pc := 7) 14 C dX5_isOpen_7 (by decide) (fun h7 => ?_) (fun h7 => ?_)
  · skip
    have q := sp_op hp
    refine gl_iconst (pc := 14) (nI 0) C dX5_isOpen_14 (by decide) ?_
    exact gl_zret (pc := 15) C dX5_isOpen_15 (by rfl) (by grind) (rfl)
  · skip
    have q := sp_op hp
    refine gl_iconst (pc := 10) (nI 1) C dX5_isOpen_10 (by decide) ?_
    refine gl_goto (pc := 11) 15 C dX5_isOpen_11 (by decide) ?_
    exact gl_zret (pc := 15) C dX5_isOpen_15 (by rfl) (by grind) (rfl)
set_option maxRecDepth 100000 in
set_option maxHeartbeats 4000000 in
theorem ctX5_areOne (F : gl_F) (M : Nat → Int32) (j k : Nat) (hj : j < 40) (hk : k < 40) : gl_Ct F LM yX5_areOne wsX5_areOne rmX5_areOne [.ref (gl_r F 0), .int (nI j), .int (nI k)] M (some (.int (if M (iK j 0) = M (iK k 0) ∧ M (iK j 1) = M (iK k 1) then nI 1 else nI 0))) (M) := by
  refine gl_met (cc := cX5_areOne) (maxL := 3) (ret := some .boolean) [some (.ref (gl_r F 0)), some (.int (nI j)), some (.int (nI k))] (plainFor_of_name (by decide)) rfl ok_LM (by simp [Value.category]) (Nat.le_of_ble_eq_true rfl) rfl (fun V hV C => ?_)
  subst hV
  refine gl_aload_0 (pc := 0) C dX5_areOne_0 ?_
  refine gl_iload_1 (pc := 1) C dX5_areOne_1 ?_
  refine gl_iconst (pc := 2) (nI 0) C dX5_areOne_2 (by decide) ?_
  refine gl_callVi (pc := 3) (ctX5_ofCaller V.1 M j 0 (by omega) (by omega)) C dX5_areOne_3 gX5_areOne_X5_ofCaller rfl hdX5_ofCaller ⟨rfl, rfl, Nat.le_of_ble_eq_true rfl, Nat.le_of_ble_eq_true rfl⟩ rfl (Nat.le_of_ble_eq_true rfl) rfl rfl rfl ?_
  refine gl_aload_0 (pc := 6) C dX5_areOne_6 ?_
  refine gl_iload_2 (pc := 7) C dX5_areOne_7 ?_
  refine gl_iconst (pc := 8) (nI 0) C dX5_areOne_8 (by decide) ?_
  refine gl_callVi (pc := 9) (ctX5_ofCaller V.1 M k 0 (by omega) (by omega)) C dX5_areOne_9 gX5_areOne_X5_ofCaller rfl hdX5_ofCaller ⟨rfl, rfl, Nat.le_of_ble_eq_true rfl, Nat.le_of_ble_eq_true rfl⟩ rfl (Nat.le_of_ble_eq_true rfl) rfl rfl rfl ?_
  refine gl_icmp_ne (pc := 12) 34 C dX5_areOne_12 (by decide) (fun h12 => ?_) (fun h12 => ?_)
  · skip
    refine gl_iconst (pc := 34) (nI 0) C dX5_areOne_34 (by decide) ?_
    exact gl_zret (pc := 35) C dX5_areOne_35 (by rfl) (by grind) (rfl)
  · skip
    refine gl_aload_0 (pc := 15) C dX5_areOne_15 ?_
    refine gl_iload_1 (pc := 16) C dX5_areOne_16 ?_
    refine gl_iconst (pc := 17) (nI 1) C dX5_areOne_17 (by decide) ?_
    refine gl_callVi (pc := 18) (ctX5_ofCaller V.1 M j 1 (by omega) (by omega)) C dX5_areOne_18 gX5_areOne_X5_ofCaller rfl hdX5_ofCaller ⟨rfl, rfl, Nat.le_of_ble_eq_true rfl, Nat.le_of_ble_eq_true rfl⟩ rfl (Nat.le_of_ble_eq_true rfl) rfl rfl rfl ?_
    refine gl_aload_0 (pc := 21) C dX5_areOne_21 ?_
    refine gl_iload_2 (pc := 22) C dX5_areOne_22 ?_
    refine gl_iconst (pc := 23) (nI 1) C dX5_areOne_23 (by decide) ?_
    refine gl_callVi (pc := 24) (ctX5_ofCaller V.1 M k 1 (by omega) (by omega)) C dX5_areOne_24 gX5_areOne_X5_ofCaller rfl hdX5_ofCaller ⟨rfl, rfl, Nat.le_of_ble_eq_true rfl, Nat.le_of_ble_eq_true rfl⟩ rfl (Nat.le_of_ble_eq_true rfl) rfl rfl rfl ?_
    refine gl_icmp_ne (pc := 27) 34 C dX5_areOne_27 (by decide) (fun h27 => ?_) (fun h27 => ?_)
    · skip
      refine gl_iconst (pc := 34) (nI 0) C dX5_areOne_34 (by decide) ?_
      exact gl_zret (pc := 35) C dX5_areOne_35 (by rfl) (by grind) (rfl)
    · skip
      refine gl_iconst (pc := 30) (nI 1) C dX5_areOne_30 (by decide) ?_
      refine gl_goto (pc := 31) 35 C dX5_areOne_31 (by decide) ?_
      exact gl_zret (pc := 35) C dX5_areOne_35 (by rfl) (by grind) (rfl)
set_option maxRecDepth 100000 in
set_option maxHeartbeats 4000000 in
theorem ctX5_isFirst (F : gl_F) {n : Nat} (hn40 : n ≤ 40) {M : Nat → Int32} (hn : M 2 = nI n) (hp : ∀ k, k < n → ∃ i, i ≤ 3 ∧ M (iK k 2) = nI i) (k : Nat) (hk : k < n) : gl_Ct F LM yX5_isFirst wsX5_isFirst rmX5_isFirst [.ref (gl_r F 0), .int (nI k)] M (some (.int (if sp_first M k then nI 1 else nI 0))) (M) := by
  refine gl_met (cc := cX5_isFirst) (maxL := 4) (ret := some .boolean) [some (.ref (gl_r F 0)), some (.int (nI k)), none, none] (plainFor_of_name (by decide)) rfl ok_LM (by simp [Value.category]) (Nat.le_of_ble_eq_true rfl) rfl (fun V hV C => ?_)
  subst hV
  refine gl_aload_0 (pc := 0) C dX5_isFirst_0 ?_
  refine gl_iload_1 (pc := 1) C dX5_isFirst_1 ?_
  refine gl_callVi (pc := 2) (ctX5_isOpen V.1 M k (by omega) (hp k hk)) C dX5_isFirst_2 gX5_isFirst_X5_isOpen rfl hdX5_isOpen ⟨rfl, rfl, Nat.le_of_ble_eq_true rfl, Nat.le_of_ble_eq_true rfl⟩ rfl (Nat.le_of_ble_eq_true rfl) rfl rfl rfl ?_
  refine gl_istore_2 (pc := 5) C dX5_isFirst_5 ?_
  refine gl_iconst (pc := 6) (nI 0) C dX5_isFirst_6 (by decide) ?_
  refine gl_istore_3 (pc := 7) C dX5_isFirst_7 ?_
  refine gl_loop (pc := 8) (n := k) (fun j => [some (.ref (gl_r V.1 0)), some (.int (nI k)), some (.int (if sp_open M k ∧ sp_none M k j = true then nI 1 else nI 0)), some (.int (nI j))]) (fun j => M) (fun j => True) 0 (Nat.zero_le _) (trivial) (gl_le_c (rfl) (gl_le_c (rfl) (gl_le_c (congrArg Value.int (by simp [sp_none])) (gl_le_c (rfl) (gl_le_n))))) (rfl) (fun hI => ?_) (fun j hj hI ih => ?_)
  · skip
    refine gl_iload_3 (pc := 8) C dX5_isFirst_8 ?_
    refine gl_iload_1 (pc := 9) C dX5_isFirst_9 ?_
    refine gl_icmp_ge (pc := 10) 46 C dX5_isFirst_10 (by decide) (fun h10 => ?_) (fun h10 => absurd h10 (gl_xge))
    refine gl_iload_2 (pc := 46) C dX5_isFirst_46 ?_
    exact gl_zret (pc := 47) C dX5_isFirst_47 (by first | exact gl_nb | rfl) (by grind) (rfl)
  · skip
    refine gl_iload_3 (pc := 8) C dX5_isFirst_8 ?_
    refine gl_iload_1 (pc := 9) C dX5_isFirst_9 ?_
    refine gl_icmp_ge (pc := 10) 46 C dX5_isFirst_10 (by decide) (fun h10 => absurd h10 (nI_ge hj (by omega))) (fun h10 => ?_)
    refine gl_iload_2 (pc := 13) C dX5_isFirst_13 ?_
    refine gl_ifeq (pc := 14) 46 C dX5_isFirst_14 (by decide) (fun h14 => ?_) (fun h14 => ?_)
    · skip
      replace h14 := gl_bz.mp h14
      have q : ¬ sp_first M k := fun q => h14 ⟨q.2, sp_none_le' (Nat.le_of_lt hj) q.1⟩
      rw [if_neg h14]
      refine gl_iload_2 (pc := 46) C dX5_isFirst_46 ?_
      exact gl_zret (pc := 47) C dX5_isFirst_47 (by first | exact gl_nb | rfl) (by grind) (rfl)
    · skip
      replace h14 := gl_bn.mp h14
      refine gl_aload_0 (pc := 17) C dX5_isFirst_17 ?_
      refine gl_iload_3 (pc := 18) C dX5_isFirst_18 ?_
      refine gl_callVi (pc := 19) (ctX5_isOpen V.1 M j (by omega) (hp j (by omega))) C dX5_isFirst_19 gX5_isFirst_X5_isOpen rfl hdX5_isOpen ⟨rfl, rfl, Nat.le_of_ble_eq_true rfl, Nat.le_of_ble_eq_true rfl⟩ rfl (Nat.le_of_ble_eq_true rfl) rfl rfl rfl ?_
      refine gl_ifeq (pc := 22) 34 C dX5_isFirst_22 (by decide) (fun h22 => ?_) (fun h22 => ?_)
      · skip
        replace h22 := gl_bz.mp h22
        refine gl_iconst (pc := 34) (nI 1) C dX5_isFirst_34 (by decide) ?_
        refine gl_goto (pc := 35) 39 C dX5_isFirst_35 (by decide) ?_
        refine gl_istore_2 (pc := 39) C dX5_isFirst_39 ?_
        first | with_reducible refine gl_iincN_3 (pc := 40) gl_i1 C dX5_isFirst_40 ?_ | refine gl_iinc_3 (pc := 40) C dX5_isFirst_40 (gl_inc1 _) ?_
        refine gl_goto (pc := 43) 8 C dX5_isFirst_43 (by decide) ?_
        exact gl_on (ih (trivial)) (gl_le_c (rfl) (gl_le_c (rfl) (gl_le_c (congrArg Value.int (by grind [sp_none])) (gl_le_c (rfl) (gl_le_n))))) (rfl)
      · skip
        replace h22 := gl_bn.mp h22
        refine gl_aload_0 (pc := 25) C dX5_isFirst_25 ?_
        refine gl_iload_3 (pc := 26) C dX5_isFirst_26 ?_
        refine gl_iload_1 (pc := 27) C dX5_isFirst_27 ?_
        refine gl_callVi (pc := 28) (ctX5_areOne V.1 M j k (by omega) (by omega)) C dX5_isFirst_28 gX5_isFirst_X5_areOne rfl hdX5_areOne ⟨rfl, rfl, Nat.le_of_ble_eq_true rfl, Nat.le_of_ble_eq_true rfl⟩ rfl (Nat.le_of_ble_eq_true rfl) rfl rfl rfl ?_
        refine gl_ifne (pc := 31) 38 C dX5_isFirst_31 (by decide) (fun h31 => ?_) (fun h31 => ?_)
        · skip
          replace h31 := gl_bn.mp h31
          refine gl_iconst (pc := 38) (nI 0) C dX5_isFirst_38 (by decide) ?_
          refine gl_istore_2 (pc := 39) C dX5_isFirst_39 ?_
          first | with_reducible refine gl_iincN_3 (pc := 40) gl_i1 C dX5_isFirst_40 ?_ | refine gl_iinc_3 (pc := 40) C dX5_isFirst_40 (gl_inc1 _) ?_
          refine gl_goto (pc := 43) 8 C dX5_isFirst_43 (by decide) ?_
          exact gl_on (ih (trivial)) (gl_le_c (rfl) (gl_le_c (rfl) (gl_le_c (congrArg Value.int (by grind [sp_none])) (gl_le_c (rfl) (gl_le_n))))) (rfl)
        · skip
          replace h31 := gl_bz.mp h31
          refine gl_iconst (pc := 34) (nI 1) C dX5_isFirst_34 (by decide) ?_
          refine gl_goto (pc := 35) 39 C dX5_isFirst_35 (by decide) ?_
          refine gl_istore_2 (pc := 39) C dX5_isFirst_39 ?_
          first | with_reducible refine gl_iincN_3 (pc := 40) gl_i1 C dX5_isFirst_40 ?_ | refine gl_iinc_3 (pc := 40) C dX5_isFirst_40 (gl_inc1 _) ?_
          refine gl_goto (pc := 43) 8 C dX5_isFirst_43 (by decide) ?_
          exact gl_on (ih (trivial)) (gl_le_c (rfl) (gl_le_c (rfl) (gl_le_c (congrArg Value.int (by grind [sp_none])) (gl_le_c (rfl) (gl_le_n))))) (rfl)
set_option maxRecDepth 100000 in
set_option maxHeartbeats 4000000 in
theorem ctX5_groups (F : gl_F) {n : Nat} (hn40 : n ≤ 40) {M : Nat → Int32} (hn : M 2 = nI n) (hp : ∀ k, k < n → ∃ i, i ≤ 3 ∧ M (iK k 2) = nI i) : gl_Ct F LM yX5_groups wsX5_groups rmX5_groups [.ref (gl_r F 0)] M (some (.int (nI (sp_groups M n)))) (M) := by
  refine gl_met (cc := cX5_groups) (maxL := 3) (ret := some .int) [some (.ref (gl_r F 0)), none, none] (plainFor_of_name (by decide)) rfl ok_LM (by simp [Value.category]) (Nat.le_of_ble_eq_true rfl) rfl (fun V hV C => ?_)
  subst hV
  refine gl_iconst (pc := 0) (nI 0) C dX5_groups_0 (by decide) ?_
  refine gl_istore_1 (pc := 1) C dX5_groups_1 ?_
  refine gl_iconst (pc := 2) (nI 0) C dX5_groups_2 (by decide) ?_
  refine gl_istore_2 (pc := 3) C dX5_groups_3 ?_
  refine gl_loop (pc := 4) (n := n) (fun k => [some (.ref (gl_r V.1 0)), some (.int (nI (sp_groups M k))), some (.int (nI k))]) (fun k => M) (fun k => True) 0 (Nat.zero_le _) (trivial) (gl_le_c (rfl) (gl_le_c (rfl) (gl_le_c (rfl) (gl_le_n)))) (rfl) (fun hI => ?_) (fun k hk hI ih => ?_)
  · skip
    refine gl_iload_2 (pc := 4) C dX5_groups_4 ?_
    refine gl_aload_0 (pc := 5) C dX5_groups_5 ?_
    refine gl_getR (pc := 6) C dX5_groups_6 fX5_groups_7 rfl rfl ?_
    refine gl_iconst (pc := 9) (nI 2) C dX5_groups_9 (by decide) ?_
    refine gl_iald (pc := 10) _ C dX5_groups_10 rfl rfl (by omega) ?_
    refine gl_top hn ?_
    refine gl_icmp_ge (pc := 11) 36 C dX5_groups_11 (by decide) (fun h11 => ?_) (fun h11 => absurd h11 (gl_xge))
    refine gl_iload_1 (pc := 36) C dX5_groups_36 ?_
    exact gl_iret (pc := 37) C dX5_groups_37 (rfl) (rfl)
  · skip
    refine gl_iload_2 (pc := 4) C dX5_groups_4 ?_
    refine gl_aload_0 (pc := 5) C dX5_groups_5 ?_
    refine gl_getR (pc := 6) C dX5_groups_6 fX5_groups_7 rfl rfl ?_
    refine gl_iconst (pc := 9) (nI 2) C dX5_groups_9 (by decide) ?_
    refine gl_iald (pc := 10) _ C dX5_groups_10 rfl rfl (by omega) ?_
    refine gl_top hn ?_
    refine gl_icmp_ge (pc := 11) 36 C dX5_groups_11 (by decide) (fun h11 => absurd h11 (nI_ge hk (by omega))) (fun h11 => ?_)
    refine gl_iload_1 (pc := 14) C dX5_groups_14 ?_
    refine gl_aload_0 (pc := 15) C dX5_groups_15 ?_
    refine gl_iload_2 (pc := 16) C dX5_groups_16 ?_
    refine gl_callVi (pc := 17) (ctX5_isFirst V.1 hn40 hn hp k hk) C dX5_groups_17 gX5_groups_X5_isFirst rfl hdX5_isFirst ⟨rfl, rfl, Nat.le_of_ble_eq_true rfl, Nat.le_of_ble_eq_true rfl⟩ rfl (Nat.le_of_ble_eq_true rfl) rfl rfl rfl ?_
    refine gl_ifeq (pc := 20) 27 C dX5_groups_20 (by decide) (fun h20 => ?_) (fun h20 => ?_)
    · skip
      replace h20 := gl_bz.mp h20
      refine gl_iconst (pc := 27) (nI 0) C dX5_groups_27 (by decide) ?_
      first | with_reducible refine gl_iaddN (pc := 28) C dX5_groups_28 ?_ | refine gl_iadd (pc := 28) C dX5_groups_28 ?_
      refine gl_istore_1 (pc := 29) C dX5_groups_29 ?_
      first | with_reducible refine gl_iincN_2 (pc := 30) gl_i1 C dX5_groups_30 ?_ | refine gl_iinc_2 (pc := 30) C dX5_groups_30 (gl_inc1 _) ?_
      refine gl_goto (pc := 33) 4 C dX5_groups_33 (by decide) ?_
      exact gl_on (ih (trivial)) (gl_le_c (rfl) (gl_le_c (congrArg Value.int (by grind [sp_groups])) (gl_le_c (rfl) (gl_le_n)))) (rfl)
    · skip
      replace h20 := gl_bn.mp h20
      refine gl_iconst (pc := 23) (nI 1) C dX5_groups_23 (by decide) ?_
      refine gl_goto (pc := 24) 28 C dX5_groups_24 (by decide) ?_
      first | with_reducible refine gl_iaddN (pc := 28) C dX5_groups_28 ?_ | refine gl_iadd (pc := 28) C dX5_groups_28 ?_
      refine gl_istore_1 (pc := 29) C dX5_groups_29 ?_
      first | with_reducible refine gl_iincN_2 (pc := 30) gl_i1 C dX5_groups_30 ?_ | refine gl_iinc_2 (pc := 30) C dX5_groups_30 (gl_inc1 _) ?_
      refine gl_goto (pc := 33) 4 C dX5_groups_33 (by decide) ?_
      exact gl_on (ih (trivial)) (gl_le_c (rfl) (gl_le_c (congrArg Value.int (by grind [sp_groups])) (gl_le_c (rfl) (gl_le_n)))) (rfl)
set_option maxRecDepth 100000 in
set_option maxHeartbeats 4000000 in
theorem ctX5_sumOfCars_w (F : gl_F) {m : Nat} (hm5 : m ≤ 5) {M : Nat → Int32} (hm : M 1 = nI m) (v : Int32) : gl_Ct F LM yX5_sumOfCars wsX5_sumOfCars rmX5_sumOfCars [.ref (gl_r F 0), .int (nI 5), .int v] M (some (.int (sp_went M m))) (M) := by
  refine gl_met (cc := cX5_sumOfCars) (maxL := 5) (ret := some .int) [some (.ref (gl_r F 0)), some (.int (nI 5)), some (.int v), none, none] (plainFor_of_name (by decide)) rfl ok_LM (by simp [Value.category]) (Nat.le_of_ble_eq_true rfl) rfl (fun V hV C => ?_)
  subst hV
  refine gl_iconst (pc := 0) (nI 0) C dX5_sumOfCars_0 (by decide) ?_
  refine gl_istore_3 (pc := 1) C dX5_sumOfCars_1 ?_
  refine gl_iconst (pc := 2) (nI 0) C dX5_sumOfCars_2 (by decide) ?_
  refine gl_istore_4 (pc := 3) C dX5_sumOfCars_3 ?_
  refine gl_loop (pc := 5) (n := m) (fun c => [some (.ref (gl_r V.1 0)), some (.int (nI 5)), some (.int v), some (.int (sp_went M c)), some (.int (nI c))]) (fun c => M) (fun c => True) 0 (Nat.zero_le _) (trivial) (gl_le_c (rfl) (gl_le_c (rfl) (gl_le_c (rfl) (gl_le_c (rfl) (gl_le_c (rfl) (gl_le_n)))))) (rfl) (fun hI => ?_) (fun c hc hI ih => ?_)
  · skip
    refine gl_iload_4 (pc := 5) C dX5_sumOfCars_5 ?_
    refine gl_aload_0 (pc := 7) C dX5_sumOfCars_7 ?_
    refine gl_getR (pc := 8) C dX5_sumOfCars_8 fX5_sumOfCars_7 rfl rfl ?_
    refine gl_iconst (pc := 11) (nI 1) C dX5_sumOfCars_11 (by decide) ?_
    refine gl_iald (pc := 12) _ C dX5_sumOfCars_12 rfl rfl (by omega) ?_
    refine gl_top hm ?_
    refine gl_icmp_ge (pc := 13) 56 C dX5_sumOfCars_13 (by decide) (fun h13 => ?_) (fun h13 => absurd h13 (gl_xge))
    refine gl_iload_3 (pc := 56) C dX5_sumOfCars_56 ?_
    exact gl_iret (pc := 57) C dX5_sumOfCars_57 (rfl) (rfl)
  · skip
    refine gl_iload_4 (pc := 5) C dX5_sumOfCars_5 ?_
    refine gl_aload_0 (pc := 7) C dX5_sumOfCars_7 ?_
    refine gl_getR (pc := 8) C dX5_sumOfCars_8 fX5_sumOfCars_7 rfl rfl ?_
    refine gl_iconst (pc := 11) (nI 1) C dX5_sumOfCars_11 (by decide) ?_
    refine gl_iald (pc := 12) _ C dX5_sumOfCars_12 rfl rfl (by omega) ?_
    refine gl_top hm ?_
    refine gl_icmp_ge (pc := 13) 56 C dX5_sumOfCars_13 (by decide) (fun h13 => absurd h13 (nI_ge hc (by omega))) (fun h13 => ?_)
    refine gl_iload_3 (pc := 16) C dX5_sumOfCars_16 ?_
    refine gl_iload_1 (pc := 17) C dX5_sumOfCars_17 ?_
    refine gl_iconst (pc := 18) (nI 5) C dX5_sumOfCars_18 (by decide) ?_
    refine gl_icmp_ne (pc := 19) 32 C dX5_sumOfCars_19 (by decide) (fun h19 => absurd h19 (not_not_intro rfl)) (fun h19 => ?_)
    refine gl_aload_0 (pc := 22) C dX5_sumOfCars_22 ?_
    refine gl_iload_4 (pc := 23) C dX5_sumOfCars_23 ?_
    refine gl_iconst (pc := 25) (nI 5) C dX5_sumOfCars_25 (by decide) ?_
    refine gl_callVi (pc := 26) (ctX5_ofCar V.1 M c 5 (by omega) (by omega)) C dX5_sumOfCars_26 gX5_sumOfCars_X5_ofCar rfl hdX5_ofCar ⟨rfl, rfl, Nat.le_of_ble_eq_true rfl, Nat.le_of_ble_eq_true rfl⟩ rfl (Nat.le_of_ble_eq_true rfl) rfl rfl rfl ?_
    refine gl_goto (pc := 29) 48 C dX5_sumOfCars_29 (by decide) ?_
    first | with_reducible refine gl_iaddN (pc := 48) C dX5_sumOfCars_48 ?_ | refine gl_iadd (pc := 48) C dX5_sumOfCars_48 ?_
    refine gl_istore_3 (pc := 49) C dX5_sumOfCars_49 ?_
    first | with_reducible refine gl_iincN_4 (pc := 50) gl_i1 C dX5_sumOfCars_50 ?_ | refine gl_iinc_4 (pc := 50) C dX5_sumOfCars_50 (gl_inc1 _) ?_
    refine gl_goto (pc := 53) 5 C dX5_sumOfCars_53 (by decide) ?_
    exact gl_on (ih (trivial)) (gl_le_c (rfl) (gl_le_c (rfl) (gl_le_c (rfl) (gl_le_c (rfl) (gl_le_c (rfl) (gl_le_n)))))) (rfl)
set_option maxRecDepth 100000 in
set_option maxHeartbeats 4000000 in
theorem ctX5_sumOfCars_s (F : gl_F) {m : Nat} (hm5 : m ≤ 5) {M : Nat → Int32} (hm : M 1 = nI m) (v : Int32) : gl_Ct F LM yX5_sumOfCars wsX5_sumOfCars rmX5_sumOfCars [.ref (gl_r F 0), .int (nI 4), .int v] M (some (.int (sp_cst M v m))) (M) := by
  refine gl_met (cc := cX5_sumOfCars) (maxL := 5) (ret := some .int) [some (.ref (gl_r F 0)), some (.int (nI 4)), some (.int v), none, none] (plainFor_of_name (by decide)) rfl ok_LM (by simp [Value.category]) (Nat.le_of_ble_eq_true rfl) rfl (fun V hV C => ?_)
  subst hV
  refine gl_iconst (pc := 0) (nI 0) C dX5_sumOfCars_0 (by decide) ?_
  refine gl_istore_3 (pc := 1) C dX5_sumOfCars_1 ?_
  refine gl_iconst (pc := 2) (nI 0) C dX5_sumOfCars_2 (by decide) ?_
  refine gl_istore_4 (pc := 3) C dX5_sumOfCars_3 ?_
  refine gl_loop (pc := 5) (n := m) (fun c => [some (.ref (gl_r V.1 0)), some (.int (nI 4)), some (.int v), some (.int (sp_cst M v c)), some (.int (nI c))]) (fun c => M) (fun c => True) 0 (Nat.zero_le _) (trivial) (gl_le_c (rfl) (gl_le_c (rfl) (gl_le_c (rfl) (gl_le_c (rfl) (gl_le_c (rfl) (gl_le_n)))))) (rfl) (fun hI => ?_) (fun c hc hI ih => ?_)
  · skip
    refine gl_iload_4 (pc := 5) C dX5_sumOfCars_5 ?_
    refine gl_aload_0 (pc := 7) C dX5_sumOfCars_7 ?_
    refine gl_getR (pc := 8) C dX5_sumOfCars_8 fX5_sumOfCars_7 rfl rfl ?_
    refine gl_iconst (pc := 11) (nI 1) C dX5_sumOfCars_11 (by decide) ?_
    refine gl_iald (pc := 12) _ C dX5_sumOfCars_12 rfl rfl (by omega) ?_
    refine gl_top hm ?_
    refine gl_icmp_ge (pc := 13) 56 C dX5_sumOfCars_13 (by decide) (fun h13 => ?_) (fun h13 => absurd h13 (gl_xge))
    refine gl_iload_3 (pc := 56) C dX5_sumOfCars_56 ?_
    exact gl_iret (pc := 57) C dX5_sumOfCars_57 (rfl) (rfl)
  · skip
    refine gl_iload_4 (pc := 5) C dX5_sumOfCars_5 ?_
    refine gl_aload_0 (pc := 7) C dX5_sumOfCars_7 ?_
    refine gl_getR (pc := 8) C dX5_sumOfCars_8 fX5_sumOfCars_7 rfl rfl ?_
    refine gl_iconst (pc := 11) (nI 1) C dX5_sumOfCars_11 (by decide) ?_
    refine gl_iald (pc := 12) _ C dX5_sumOfCars_12 rfl rfl (by omega) ?_
    refine gl_top hm ?_
    refine gl_icmp_ge (pc := 13) 56 C dX5_sumOfCars_13 (by decide) (fun h13 => absurd h13 (nI_ge hc (by omega))) (fun h13 => ?_)
    refine gl_iload_3 (pc := 16) C dX5_sumOfCars_16 ?_
    refine gl_iload_1 (pc := 17) C dX5_sumOfCars_17 ?_
    refine gl_iconst (pc := 18) (nI 5) C dX5_sumOfCars_18 (by decide) ?_
    refine gl_icmp_ne (pc := 19) 32 C dX5_sumOfCars_19 (by decide) (fun h19 => ?_) (fun h19 => absurd h19 (by decide))
    refine gl_aload_0 (pc := 32) C dX5_sumOfCars_32 ?_
    refine gl_iload_4 (pc := 33) C dX5_sumOfCars_33 ?_
    refine gl_iload_1 (pc := 35) C dX5_sumOfCars_35 ?_
    refine gl_callVi (pc := 36) (ctX5_ofCar V.1 M c 4 (by omega) (by omega)) C dX5_sumOfCars_36 gX5_sumOfCars_X5_ofCar rfl hdX5_ofCar ⟨rfl, rfl, Nat.le_of_ble_eq_true rfl, Nat.le_of_ble_eq_true rfl⟩ rfl (Nat.le_of_ble_eq_true rfl) rfl rfl rfl ?_
    refine gl_iload_2 (pc := 39) C dX5_sumOfCars_39 ?_
    refine gl_icmp_ne (pc := 40) 47 C dX5_sumOfCars_40 (by decide) (fun h40 => ?_) (fun h40 => ?_)
    · skip
      refine gl_iconst (pc := 47) (nI 0) C dX5_sumOfCars_47 (by decide) ?_
      first | with_reducible refine gl_iaddN (pc := 48) C dX5_sumOfCars_48 ?_ | refine gl_iadd (pc := 48) C dX5_sumOfCars_48 ?_
      refine gl_istore_3 (pc := 49) C dX5_sumOfCars_49 ?_
      first | with_reducible refine gl_iincN_4 (pc := 50) gl_i1 C dX5_sumOfCars_50 ?_ | refine gl_iinc_4 (pc := 50) C dX5_sumOfCars_50 (gl_inc1 _) ?_
      refine gl_goto (pc := 53) 5 C dX5_sumOfCars_53 (by decide) ?_
      exact gl_on (ih (trivial)) (gl_le_c (rfl) (gl_le_c (rfl) (gl_le_c (rfl) (gl_le_c (congrArg Value.int (by grind [sp_cst, gl_add0])) (gl_le_c (rfl) (gl_le_n)))))) (rfl)
    · skip
      refine gl_iconst (pc := 43) (nI 1) C dX5_sumOfCars_43 (by decide) ?_
      refine gl_goto (pc := 44) 48 C dX5_sumOfCars_44 (by decide) ?_
      first | with_reducible refine gl_iaddN (pc := 48) C dX5_sumOfCars_48 ?_ | refine gl_iadd (pc := 48) C dX5_sumOfCars_48 ?_
      refine gl_istore_3 (pc := 49) C dX5_sumOfCars_49 ?_
      first | with_reducible refine gl_iincN_4 (pc := 50) gl_i1 C dX5_sumOfCars_50 ?_ | refine gl_iinc_4 (pc := 50) C dX5_sumOfCars_50 (gl_inc1 _) ?_
      refine gl_goto (pc := 53) 5 C dX5_sumOfCars_53 (by decide) ?_
      exact gl_on (ih (trivial)) (gl_le_c (rfl) (gl_le_c (rfl) (gl_le_c (rfl) (gl_le_c (congrArg Value.int (by grind [sp_cst, gl_add0])) (gl_le_c (rfl) (gl_le_n)))))) (rfl)
set_option maxRecDepth 100000 in
set_option maxHeartbeats 4000000 in
theorem ctX5_waited (F : gl_F) {n m t : Nat} {M : Nat → Int32} (w : sp_W n m t M) (k : Nat) (hk : k < n) : gl_Ct F LM yX5_waited wsX5_waited rmX5_waited [.ref (gl_r F 0), .int (nI k)] M (some (.int (sp_wait M k (nI t)))) (M) := by
  refine gl_met (cc := cX5_waited) (maxL := 2) (ret := some .int) [some (.ref (gl_r F 0)), some (.int (nI k))] (plainFor_of_name (by decide)) rfl ok_LM (by simp [Value.category]) (Nat.le_of_ble_eq_true rfl) rfl (fun V hV C => ?_)
  subst hV
  obtain ⟨hn40, hm5, hn, hm, ht, hcar, hcal⟩ := id w
  have hr := sp_rt (hcal k hk).2.2.1
  refine gl_aload_0 (pc := 0) C dX5_waited_0 ?_
  refine gl_iload_1 (pc := 1) C dX5_waited_1 ?_
  refine gl_iconst (pc := 2) (nI 2) C dX5_waited_2 (by decide) ?_
  refine gl_callVi (pc := 3) (ctX5_ofCaller V.1 M k 2 (by omega) (by omega)) C dX5_waited_3 gX5_waited_X5_ofCaller rfl hdX5_ofCaller ⟨rfl, rfl, Nat.le_of_ble_eq_true rfl, Nat.le_of_ble_eq_true rfl⟩ rfl (Nat.le_of_ble_eq_true rfl) rfl rfl rfl ?_
  refine gl_iconst (pc := 6) (nI 2) C dX5_waited_6 (by decide) ?_
  refine gl_icmp_lt (pc := 7) 19 C dX5_waited_7 (by decide) (fun h7 => ?_) (fun h7 => ?_)
  · skip
    refine gl_aload_0 (pc := 19) C dX5_waited_19 ?_
    refine gl_getR (pc := 20) C dX5_waited_20 fX5_waited_7 rfl rfl ?_
    refine gl_iconst (pc := 23) (nI 0) C dX5_waited_23 (by decide) ?_
    refine gl_iald (pc := 24) _ C dX5_waited_24 rfl rfl (by omega) ?_
    refine gl_top ht ?_
    refine gl_aload_0 (pc := 25) C dX5_waited_25 ?_
    refine gl_iload_1 (pc := 26) C dX5_waited_26 ?_
    refine gl_iconst (pc := 27) (nI 4) C dX5_waited_27 (by decide) ?_
    refine gl_callVi (pc := 28) (ctX5_ofCaller V.1 M k 4 (by omega) (by omega)) C dX5_waited_28 gX5_waited_X5_ofCaller rfl hdX5_ofCaller ⟨rfl, rfl, Nat.le_of_ble_eq_true rfl, Nat.le_of_ble_eq_true rfl⟩ rfl (Nat.le_of_ble_eq_true rfl) rfl rfl rfl ?_
    refine gl_isub (pc := 31) C dX5_waited_31 ?_
    exact gl_iret (pc := 32) C dX5_waited_32 (by grind [sp_wait]) (rfl)
  · skip
    refine gl_aload_0 (pc := 10) C dX5_waited_10 ?_
    refine gl_iload_1 (pc := 11) C dX5_waited_11 ?_
    refine gl_iconst (pc := 12) (nI 5) C dX5_waited_12 (by decide) ?_
    refine gl_callVi (pc := 13) (ctX5_ofCaller V.1 M k 5 (by omega) (by omega)) C dX5_waited_13 gX5_waited_X5_ofCaller rfl hdX5_ofCaller ⟨rfl, rfl, Nat.le_of_ble_eq_true rfl, Nat.le_of_ble_eq_true rfl⟩ rfl (Nat.le_of_ble_eq_true rfl) rfl rfl rfl ?_
    refine gl_goto (pc := 16) 25 C dX5_waited_16 (by decide) ?_
    refine gl_aload_0 (pc := 25) C dX5_waited_25 ?_
    refine gl_iload_1 (pc := 26) C dX5_waited_26 ?_
    refine gl_iconst (pc := 27) (nI 4) C dX5_waited_27 (by decide) ?_
    refine gl_callVi (pc := 28) (ctX5_ofCaller V.1 M k 4 (by omega) (by omega)) C dX5_waited_28 gX5_waited_X5_ofCaller rfl hdX5_ofCaller ⟨rfl, rfl, Nat.le_of_ble_eq_true rfl, Nat.le_of_ble_eq_true rfl⟩ rfl (Nat.le_of_ble_eq_true rfl) rfl rfl rfl ?_
    refine gl_isub (pc := 31) C dX5_waited_31 ?_
    exact gl_iret (pc := 32) C dX5_waited_32 (by grind [sp_wait]) (rfl)
set_option maxRecDepth 100000 in
set_option maxHeartbeats 4000000 in
theorem ctX5_acts (F : gl_F) {M : Nat → Int32} {p : Nat} (hp5 : p ≤ 5) (hp : M 378 = nI p) : gl_Ct F LM yX5_acts wsX5_acts rmX5_acts [.ref (gl_r F 0)] M (none) (sp_acts M p) := by
  refine gl_met (cc := cX5_acts) (maxL := 2) (ret := none) [some (.ref (gl_r F 0)), none] (plainFor_of_name (by decide)) rfl ok_LM (by simp [Value.category]) (Nat.le_of_ble_eq_true rfl) rfl (fun V hV C => ?_)
  subst hV
  refine gl_aload_0 (pc := 0) C dX5_acts_0 ?_
  refine gl_getI (pc := 1) C dX5_acts_1 fX5_acts_22 rfl rfl ?_
  refine gl_top hp ?_
  refine gl_iconst (pc := 4) (nI 5) C dX5_acts_4 (by decide) ?_
  refine gl_icmp_ne (pc := 5) 49 C dX5_acts_5 (by decide) (fun h5 => ?_) (fun h5 => ?_)
  · skip
    have hpn : ¬ p = 5 := fun q => h5 (by rw [q])
    obtain ⟨b, eb, hb⟩ : ∃ b, b = 1200 + 378 * p ∧ 378 ≤ b := ⟨_, rfl, by omega⟩
    obtain ⟨MB, eM⟩ : ∃ MB : Nat → Int32, MB = M := ⟨_, rfl⟩
    obtain ⟨r, er, hr5, hMr⟩ : ∃ r, r = p ∧ r < 5 ∧ MB 378 = nI r := ⟨p, rfl, by omega, by rw [eM]; exact hp⟩
    refine gl_mem eM.symm ?_
    have ebr : b = 1200 + 378 * r := by rw [er]; exact eb
    have fin : upd (sp_keep MB b 378) 378 (nI (r + 1)) = sp_acts M p := by rw [sp_acts, if_neg hpn, eM, eb, er]
    refine gl_iconst (pc := 49) (nI 0) C dX5_acts_49 (by decide) ?_
    refine gl_istore_1 (pc := 50) C dX5_acts_50 ?_
    refine gl_loop (pc := 51) (n := 378) (fun k => [some (.ref (gl_r V.1 0)), some (.int (nI k))]) (fun k => sp_keep MB b k) (fun k => True) 0 (Nat.zero_le _) (trivial) (gl_le_c (rfl) (gl_le_c (rfl) (gl_le_n))) (sp_keep_0.symm) (fun hI => ?_) (fun k hk hI ih => ?_)
    · skip
      refine gl_iload_1 (pc := 51) C dX5_acts_51 ?_
      refine gl_sipush (pc := 52) (nI 378) C dX5_acts_52 (by decide +kernel) ?_
      refine gl_icmp_ge (pc := 55) 85 C dX5_acts_55 (by decide) (fun h55 => ?_) (fun h55 => absurd h55 (gl_xge))
      refine gl_aload_0 (pc := 85) C dX5_acts_85 ?_
      first | refine gl_dupR (pc := 86) C dX5_acts_86 ?_ | refine gl_dupI (pc := 86) C dX5_acts_86 ?_
      refine gl_getI (pc := 87) C dX5_acts_87 fX5_acts_22 rfl rfl ?_
      refine gl_top (show sp_keep MB b 378 378 = nI r by unfold sp_keep; rw [if_neg (by omega)]; exact hMr) ?_
      refine gl_iconst (pc := 90) (nI 1) C dX5_acts_90 (by decide) ?_
      first | with_reducible refine gl_iaddN (pc := 91) C dX5_acts_91 ?_ | refine gl_iadd (pc := 91) C dX5_acts_91 ?_
      refine gl_put (pc := 92) C dX5_acts_92 pX5_acts_22 rfl rfl ?_
      exact gl_vret (pc := 95) C dX5_acts_95 (fin)
    · skip
      refine gl_iload_1 (pc := 51) C dX5_acts_51 ?_
      refine gl_sipush (pc := 52) (nI 378) C dX5_acts_52 (by decide +kernel) ?_
      refine gl_icmp_ge (pc := 55) 85 C dX5_acts_55 (by decide) (fun h55 => absurd h55 (nI_ge hk (by omega))) (fun h55 => ?_)
      refine gl_aload_0 (pc := 58) C dX5_acts_58 ?_
      refine gl_getR (pc := 59) C dX5_acts_59 fX5_acts_13 rfl rfl ?_
      refine gl_sipush (pc := 62) (nI 378) C dX5_acts_62 (by decide +kernel) ?_
      refine gl_aload_0 (pc := 65) C dX5_acts_65 ?_
      refine gl_getI (pc := 66) C dX5_acts_66 fX5_acts_22 rfl rfl ?_
      refine gl_top (show sp_keep MB b k 378 = nI r by unfold sp_keep; rw [if_neg (by omega)]; exact hMr) ?_
      first | with_reducible refine gl_imulN (pc := 69) C dX5_acts_69 ?_ | refine gl_imul (pc := 69) C dX5_acts_69 ?_
      refine gl_iload_1 (pc := 70) C dX5_acts_70 ?_
      first | with_reducible refine gl_iaddN (pc := 71) C dX5_acts_71 ?_ | refine gl_iadd (pc := 71) C dX5_acts_71 ?_
      refine gl_aload_0 (pc := 72) C dX5_acts_72 ?_
      refine gl_getR (pc := 73) C dX5_acts_73 fX5_acts_7 rfl rfl ?_
      refine gl_iload_1 (pc := 76) C dX5_acts_76 ?_
      refine gl_iald (pc := 77) _ C dX5_acts_77 rfl rfl (by omega) ?_
      refine gl_iast (pc := 78) _ C dX5_acts_78 rfl rfl (by omega) ?_
      first | with_reducible refine gl_iincN_1 (pc := 79) gl_i1 C dX5_acts_79 ?_ | refine gl_iinc_1 (pc := 79) C dX5_acts_79 (gl_inc1 _) ?_
      refine gl_goto (pc := 82) 51 C dX5_acts_82 (by decide) ?_
      exact gl_on (ih (trivial)) (gl_le_c (rfl) (gl_le_c (rfl) (gl_le_n))) (by rw [← Nat.add_assoc, ← ebr]; exact sp_keep_1 hb hk)
  · skip
    have hpn : p = 5 := (nI_eq (by omega) (by omega)).mp h5
    refine gl_iconst (pc := 8) (nI 0) C dX5_acts_8 (by decide) ?_
    refine gl_istore_1 (pc := 9) C dX5_acts_9 ?_
    refine gl_loop (pc := 10) (n := 1512) (fun k => [some (.ref (gl_r V.1 0)), some (.int (nI k))]) (fun k => sp_shift M k) (fun k => True) 0 (Nat.zero_le _) (trivial) (gl_le_c (rfl) (gl_le_c (rfl) (gl_le_n))) (sp_shift_0.symm) (fun hI => ?_) (fun k hk hI ih => ?_)
    · skip
      refine gl_iload_1 (pc := 10) C dX5_acts_10 ?_
      refine gl_sipush (pc := 11) (nI 1512) C dX5_acts_11 (by decide +kernel) ?_
      refine gl_icmp_ge (pc := 14) 39 C dX5_acts_14 (by decide) (fun h14 => ?_) (fun h14 => absurd h14 (gl_xge))
      refine gl_aload_0 (pc := 39) C dX5_acts_39 ?_
      first | refine gl_dupR (pc := 40) C dX5_acts_40 ?_ | refine gl_dupI (pc := 40) C dX5_acts_40 ?_
      refine gl_getI (pc := 41) C dX5_acts_41 fX5_acts_22 rfl rfl ?_
      refine gl_top (show sp_shift M 1512 378 = nI 5 by unfold sp_shift; rw [if_neg (by omega), hp, hpn]) ?_
      refine gl_iconst (pc := 44) (nI 1) C dX5_acts_44 (by decide) ?_
      refine gl_isub (pc := 45) C dX5_acts_45 ?_
      refine gl_top (y := nI 4) (by decide +kernel) ?_
      refine gl_put (pc := 46) C dX5_acts_46 pX5_acts_22 rfl rfl ?_
      obtain ⟨b, eb, hb⟩ : ∃ b, b = 2712 ∧ 378 ≤ b := ⟨_, rfl, by omega⟩
      obtain ⟨MB, eM⟩ : ∃ MB : Nat → Int32, MB = upd (sp_shift M 1512) 378 (nI 4) := ⟨_, rfl⟩
      obtain ⟨r, er, hr5, hMr⟩ : ∃ r, r = 4 ∧ r < 5 ∧ MB 378 = nI r := ⟨4, rfl, by omega, by rw [eM, gl_upd_eq]⟩
      refine gl_mem eM.symm ?_
      have ebr : b = 1200 + 378 * r := by rw [er]; exact eb
      have fin : upd (sp_keep MB b 378) 378 (nI (r + 1)) = sp_acts M p := by rw [sp_acts, if_pos hpn, eM, eb, er]
      refine gl_iconst (pc := 49) (nI 0) C dX5_acts_49 (by decide) ?_
      refine gl_istore_1 (pc := 50) C dX5_acts_50 ?_
      refine gl_loop (pc := 51) (n := 378) (fun k => [some (.ref (gl_r V.1 0)), some (.int (nI k))]) (fun k => sp_keep MB b k) (fun k => True) 0 (Nat.zero_le _) (trivial) (gl_le_c (rfl) (gl_le_c (rfl) (gl_le_n))) (sp_keep_0.symm) (fun hI => ?_) (fun k hk hI ih => ?_)
      · skip
        refine gl_iload_1 (pc := 51) C dX5_acts_51 ?_
        refine gl_sipush (pc := 52) (nI 378) C dX5_acts_52 (by decide +kernel) ?_
        refine gl_icmp_ge (pc := 55) 85 C dX5_acts_55 (by decide) (fun h55 => ?_) (fun h55 => absurd h55 (gl_xge))
        refine gl_aload_0 (pc := 85) C dX5_acts_85 ?_
        first | refine gl_dupR (pc := 86) C dX5_acts_86 ?_ | refine gl_dupI (pc := 86) C dX5_acts_86 ?_
        refine gl_getI (pc := 87) C dX5_acts_87 fX5_acts_22 rfl rfl ?_
        refine gl_top (show sp_keep MB b 378 378 = nI r by unfold sp_keep; rw [if_neg (by omega)]; exact hMr) ?_
        refine gl_iconst (pc := 90) (nI 1) C dX5_acts_90 (by decide) ?_
        first | with_reducible refine gl_iaddN (pc := 91) C dX5_acts_91 ?_ | refine gl_iadd (pc := 91) C dX5_acts_91 ?_
        refine gl_put (pc := 92) C dX5_acts_92 pX5_acts_22 rfl rfl ?_
        exact gl_vret (pc := 95) C dX5_acts_95 (fin)
      · skip
        refine gl_iload_1 (pc := 51) C dX5_acts_51 ?_
        refine gl_sipush (pc := 52) (nI 378) C dX5_acts_52 (by decide +kernel) ?_
        refine gl_icmp_ge (pc := 55) 85 C dX5_acts_55 (by decide) (fun h55 => absurd h55 (nI_ge hk (by omega))) (fun h55 => ?_)
        refine gl_aload_0 (pc := 58) C dX5_acts_58 ?_
        refine gl_getR (pc := 59) C dX5_acts_59 fX5_acts_13 rfl rfl ?_
        refine gl_sipush (pc := 62) (nI 378) C dX5_acts_62 (by decide +kernel) ?_
        refine gl_aload_0 (pc := 65) C dX5_acts_65 ?_
        refine gl_getI (pc := 66) C dX5_acts_66 fX5_acts_22 rfl rfl ?_
        refine gl_top (show sp_keep MB b k 378 = nI r by unfold sp_keep; rw [if_neg (by omega)]; exact hMr) ?_
        first | with_reducible refine gl_imulN (pc := 69) C dX5_acts_69 ?_ | refine gl_imul (pc := 69) C dX5_acts_69 ?_
        refine gl_iload_1 (pc := 70) C dX5_acts_70 ?_
        first | with_reducible refine gl_iaddN (pc := 71) C dX5_acts_71 ?_ | refine gl_iadd (pc := 71) C dX5_acts_71 ?_
        refine gl_aload_0 (pc := 72) C dX5_acts_72 ?_
        refine gl_getR (pc := 73) C dX5_acts_73 fX5_acts_7 rfl rfl ?_
        refine gl_iload_1 (pc := 76) C dX5_acts_76 ?_
        refine gl_iald (pc := 77) _ C dX5_acts_77 rfl rfl (by omega) ?_
        refine gl_iast (pc := 78) _ C dX5_acts_78 rfl rfl (by omega) ?_
        first | with_reducible refine gl_iincN_1 (pc := 79) gl_i1 C dX5_acts_79 ?_ | refine gl_iinc_1 (pc := 79) C dX5_acts_79 (gl_inc1 _) ?_
        refine gl_goto (pc := 82) 51 C dX5_acts_82 (by decide) ?_
        exact gl_on (ih (trivial)) (gl_le_c (rfl) (gl_le_c (rfl) (gl_le_n))) (by rw [← Nat.add_assoc, ← ebr]; exact sp_keep_1 hb hk)
    · skip
      refine gl_iload_1 (pc := 10) C dX5_acts_10 ?_
      refine gl_sipush (pc := 11) (nI 1512) C dX5_acts_11 (by decide +kernel) ?_
      refine gl_icmp_ge (pc := 14) 39 C dX5_acts_14 (by decide) (fun h14 => absurd h14 (nI_ge hk (by omega))) (fun h14 => ?_)
      refine gl_aload_0 (pc := 17) C dX5_acts_17 ?_
      refine gl_getR (pc := 18) C dX5_acts_18 fX5_acts_13 rfl rfl ?_
      refine gl_iload_1 (pc := 21) C dX5_acts_21 ?_
      refine gl_aload_0 (pc := 22) C dX5_acts_22 ?_
      refine gl_getR (pc := 23) C dX5_acts_23 fX5_acts_13 rfl rfl ?_
      refine gl_iload_1 (pc := 26) C dX5_acts_26 ?_
      refine gl_sipush (pc := 27) (nI 378) C dX5_acts_27 (by decide +kernel) ?_
      first | with_reducible refine gl_iaddN (pc := 30) C dX5_acts_30 ?_ | refine gl_iadd (pc := 30) C dX5_acts_30 ?_
      refine gl_iald (pc := 31) _ C dX5_acts_31 rfl rfl (by omega) ?_
      refine gl_iast (pc := 32) _ C dX5_acts_32 rfl rfl (by omega) ?_
      first | with_reducible refine gl_iincN_1 (pc := 33) gl_i1 C dX5_acts_33 ?_ | refine gl_iinc_1 (pc := 33) C dX5_acts_33 (gl_inc1 _) ?_
      refine gl_goto (pc := 36) 10 C dX5_acts_36 (by decide) ?_
      exact gl_on (ih (trivial)) (gl_le_c (rfl) (gl_le_c (rfl) (gl_le_n))) (sp_shift_1 hk)
