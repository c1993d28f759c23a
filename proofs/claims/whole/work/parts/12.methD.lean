theorem fX5_isStop_7 : gl_fl wsX5_isStop RX5 7 5 0 := ⟨RX5, TX5, 5, RX5, rfl, by decide, by decide +kernel, by decide +kernel, rfl⟩
theorem fX5_stopsNow_7 : gl_fl wsX5_stopsNow RX5 7 5 0 := ⟨RX5, TX5, 5, RX5, rfl, by decide, by decide +kernel, by decide +kernel, rfl⟩
theorem fX5_ticks_7 : gl_fl wsX5_ticks RX5 7 5 0 := ⟨RX5, TX5, 5, RX5, rfl, by decide, by decide +kernel, by decide +kernel, rfl⟩
theorem fX5_fails_7 : gl_fl wsX5_fails RX5 7 5 0 := ⟨RX5, TX5, 5, RX5, rfl, by decide, by decide +kernel, by decide +kernel, rfl⟩
set_option maxRecDepth 100000 in
set_option maxHeartbeats 4000000 in
theorem ctX5_isOut (F : gl_F) (M : Nat → Int32) (k c : Nat) (hk : k < 40) (hc : c < 5) : gl_Ct F LM yX5_isOut wsX5_isOut rmX5_isOut [.ref (gl_r F 0), .int (nI k), .int (nI c)] M (some (.int (if sp_rd M k (nI c) ∧ M (iK k 1) = M (iC c 3) then nI 1 else nI 0))) (M) := by
  refine gl_met (cc := cX5_isOut) (maxL := 3) (ret := some .boolean) [some (.ref (gl_r F 0)), some (.int (nI k)), some (.int (nI c))] (plainFor_of_name (by decide)) rfl ok_LM (by simp [Value.category]) (Nat.le_of_ble_eq_true rfl) rfl (fun V hV C => ?_)
  subst hV
  refine gl_aload_0 (pc := 0) C dX5_isOut_0 ?_
  refine gl_iload_1 (pc := 1) C dX5_isOut_1 ?_
  refine gl_iconst (pc := 2) (nI 3) C dX5_isOut_2 (by decide) ?_
  refine gl_callVi (pc := 3) (ctX5_ofCaller V.1 M k 3 (by omega) (by omega)) C dX5_isOut_3 gX5_isOut_X5_ofCaller rfl hdX5_ofCaller ⟨rfl, rfl, Nat.le_of_ble_eq_true rfl, Nat.le_of_ble_eq_true rfl⟩ rfl (Nat.le_of_ble_eq_true rfl) rfl rfl rfl ?_
  refine gl_iload_2 (pc := 6) C dX5_isOut_6 ?_
  refine gl_icmp_ne (pc := 7) 39 C dX5_isOut_7 (by decide) (fun h7 => ?_) (fun h7 => ?_)
  · skip
    refine gl_iconst (pc := 39) (nI 0) C dX5_isOut_39 (by decide) ?_
    exact gl_zret (pc := 40) C dX5_isOut_40 (by rfl) (by grind) (rfl)
  · skip
    refine gl_aload_0 (pc := 10) C dX5_isOut_10 ?_
    refine gl_iload_1 (pc := 11) C dX5_isOut_11 ?_
    refine gl_iconst (pc := 12) (nI 2) C dX5_isOut_12 (by decide) ?_
    refine gl_callVi (pc := 13) (ctX5_ofCaller V.1 M k 2 (by omega) (by omega)) C dX5_isOut_13 gX5_isOut_X5_ofCaller rfl hdX5_ofCaller ⟨rfl, rfl, Nat.le_of_ble_eq_true rfl, Nat.le_of_ble_eq_true rfl⟩ rfl (Nat.le_of_ble_eq_true rfl) rfl rfl rfl ?_
    refine gl_iconst (pc := 16) (nI 2) C dX5_isOut_16 (by decide) ?_
    refine gl_icmp_ne (pc := 17) 39 C dX5_isOut_17 (by decide) (fun h17 => ?_) (fun h17 => ?_)
    · skip
      refine gl_iconst (pc := 39) (nI 0) C dX5_isOut_39 (by decide) ?_
      exact gl_zret (pc := 40) C dX5_isOut_40 (by rfl) (by grind) (rfl)
    · skip
      refine gl_aload_0 (pc := 20) C dX5_isOut_20 ?_
      refine gl_iload_1 (pc := 21) C dX5_isOut_21 ?_
      refine gl_iconst (pc := 22) (nI 1) C dX5_isOut_22 (by decide) ?_
      refine gl_callVi (pc := 23) (ctX5_ofCaller V.1 M k 1 (by omega) (by omega)) C dX5_isOut_23 gX5_isOut_X5_ofCaller rfl hdX5_ofCaller ⟨rfl, rfl, Nat.le_of_ble_eq_true rfl, Nat.le_of_ble_eq_true rfl⟩ rfl (Nat.le_of_ble_eq_true rfl) rfl rfl rfl ?_
      refine gl_aload_0 (pc := 26) C dX5_isOut_26 ?_
      refine gl_iload_2 (pc := 27) C dX5_isOut_27 ?_
      refine gl_iconst (pc := 28) (nI 3) C dX5_isOut_28 (by decide) ?_
      refine gl_callVi (pc := 29) (ctX5_ofCar V.1 M c 3 (by omega) (by omega)) C dX5_isOut_29 gX5_isOut_X5_ofCar rfl hdX5_ofCar ⟨rfl, rfl, Nat.le_of_ble_eq_true rfl, Nat.le_of_ble_eq_true rfl⟩ rfl (Nat.le_of_ble_eq_true rfl) rfl rfl rfl ?_
      refine gl_icmp_ne (pc := 32) 39 C dX5_isOut_32 (by decide) (fun h32 => ?_) (fun h32 => ?_)
      · skip
        refine gl_iconst (pc := 39) (nI 0) C dX5_isOut_39 (by decide) ?_
        exact gl_zret (pc := 40) C dX5_isOut_40 (by rfl) (by grind) (rfl)
      · skip
        refine gl_iconst (pc := 35) (nI 1) C dX5_isOut_35 (by decide) ?_
        refine gl_goto (pc := 36) 40 C dX5_isOut_36 (by decide) ?_
        exact gl_zret (pc := 40) C dX5_isOut_40 (by rfl) (by grind) (rfl)
set_option maxRecDepth 100000 in
set_option maxHeartbeats 4000000 in
theorem ctX5_isTaken (F : gl_F) (M : Nat → Int32) (k c : Nat) (hk : k < 40) (hc : c < 5) : gl_Ct F LM yX5_isTaken wsX5_isTaken rmX5_isTaken [.ref (gl_r F 0), .int (nI k), .int (nI c)] M (some (.int (if sp_wt M k (nI c) ∧ M (iK k 0) = M (iC c 3) then nI 1 else nI 0))) (M) := by
  refine gl_met (cc := cX5_isTaken) (maxL := 3) (ret := some .boolean) [some (.ref (gl_r F 0)), some (.int (nI k)), some (.int (nI c))] (plainFor_of_name (by decide)) rfl ok_LM (by simp [Value.category]) (Nat.le_of_ble_eq_true rfl) rfl (fun V hV C => ?_)
  subst hV
  refine gl_aload_0 (pc := 0) C dX5_isTaken_0 ?_
  refine gl_iload_1 (pc := 1) C dX5_isTaken_1 ?_
  refine gl_iconst (pc := 2) (nI 3) C dX5_isTaken_2 (by decide) ?_
  refine gl_callVi (pc := 3) (ctX5_ofCaller V.1 M k 3 (by omega) (by omega)) C dX5_isTaken_3 gX5_isTaken_X5_ofCaller rfl hdX5_ofCaller ⟨rfl, rfl, Nat.le_of_ble_eq_true rfl, Nat.le_of_ble_eq_true rfl⟩ rfl (Nat.le_of_ble_eq_true rfl) rfl rfl rfl ?_
  refine gl_iload_2 (pc := 6) C dX5_isTaken_6 ?_
  refine gl_icmp_ne (pc := 7) 39 C dX5_isTaken_7 (by decide) (fun h7 => ?_) (fun h7 => ?_)
  · skip
    refine gl_iconst (pc := 39) (nI 0) C dX5_isTaken_39 (by decide) ?_
    exact gl_zret (pc := 40) C dX5_isTaken_40 (by rfl) (by grind) (rfl)
  · skip
    refine gl_aload_0 (pc := 10) C dX5_isTaken_10 ?_
    refine gl_iload_1 (pc := 11) C dX5_isTaken_11 ?_
    refine gl_iconst (pc := 12) (nI 2) C dX5_isTaken_12 (by decide) ?_
    refine gl_callVi (pc := 13) (ctX5_ofCaller V.1 M k 2 (by omega) (by omega)) C dX5_isTaken_13 gX5_isTaken_X5_ofCaller rfl hdX5_ofCaller ⟨rfl, rfl, Nat.le_of_ble_eq_true rfl, Nat.le_of_ble_eq_true rfl⟩ rfl (Nat.le_of_ble_eq_true rfl) rfl rfl rfl ?_
    refine gl_iconst (pc := 16) (nI 1) C dX5_isTaken_16 (by decide) ?_
    refine gl_icmp_ne (pc := 17) 39 C dX5_isTaken_17 (by decide) (fun h17 => ?_) (fun h17 => ?_)
    · skip
      refine gl_iconst (pc := 39) (nI 0) C dX5_isTaken_39 (by decide) ?_
      exact gl_zret (pc := 40) C dX5_isTaken_40 (by rfl) (by grind) (rfl)
    · skip
      refine gl_aload_0 (pc := 20) C dX5_isTaken_20 ?_
      refine gl_iload_1 (pc := 21) C dX5_isTaken_21 ?_
      refine gl_iconst (pc := 22) (nI 0) C dX5_isTaken_22 (by decide) ?_
      refine gl_callVi (pc := 23) (ctX5_ofCaller V.1 M k 0 (by omega) (by omega)) C dX5_isTaken_23 gX5_isTaken_X5_ofCaller rfl hdX5_ofCaller ⟨rfl, rfl, Nat.le_of_ble_eq_true rfl, Nat.le_of_ble_eq_true rfl⟩ rfl (Nat.le_of_ble_eq_true rfl) rfl rfl rfl ?_
      refine gl_aload_0 (pc := 26) C dX5_isTaken_26 ?_
      refine gl_iload_2 (pc := 27) C dX5_isTaken_27 ?_
      refine gl_iconst (pc := 28) (nI 3) C dX5_isTaken_28 (by decide) ?_
      refine gl_callVi (pc := 29) (ctX5_ofCar V.1 M c 3 (by omega) (by omega)) C dX5_isTaken_29 gX5_isTaken_X5_ofCar rfl hdX5_ofCar ⟨rfl, rfl, Nat.le_of_ble_eq_true rfl, Nat.le_of_ble_eq_true rfl⟩ rfl (Nat.le_of_ble_eq_true rfl) rfl rfl rfl ?_
      refine gl_icmp_ne (pc := 32) 39 C dX5_isTaken_32 (by decide) (fun h32 => ?_) (fun h32 => ?_)
      · skip
        refine gl_iconst (pc := 39) (nI 0) C dX5_isTaken_39 (by decide) ?_
        exact gl_zret (pc := 40) C dX5_isTaken_40 (by rfl) (by grind) (rfl)
      · skip
        refine gl_iconst (pc := 35) (nI 1) C dX5_isTaken_35 (by decide) ?_
        refine gl_goto (pc := 36) 40 C dX5_isTaken_36 (by decide) ?_
        exact gl_zret (pc := 40) C dX5_isTaken_40 (by rfl) (by grind) (rfl)
set_option maxRecDepth 100000 in
set_option maxHeartbeats 4000000 in
theorem ctX5_isStop (F : gl_F) {n m t : Nat} {M : Nat → Int32} (w : sp_W n m t M) (c : Nat) (hc : c < m) : gl_Ct F LM yX5_isStop wsX5_isStop rmX5_isStop [.ref (gl_r F 0), .int (nI c)] M (some (.int (if sp_isStop M (nI c) (M (iC c 3)) (M (iC c 2)) n then nI 1 else nI 0))) (M) := by
  refine gl_met (cc := cX5_isStop) (maxL := 5) (ret := some .boolean) [some (.ref (gl_r F 0)), some (.int (nI c)), none, none, none] (plainFor_of_name (by decide)) rfl ok_LM (by simp [Value.category]) (Nat.le_of_ble_eq_true rfl) rfl (fun V hV C => ?_)
  subst hV
  obtain ⟨hn40, hm5, hn, hm, ht, hcar, hcal⟩ := id w
  refine gl_iconst (pc := 0) (nI 0) C dX5_isStop_0 (by decide) ?_
  refine gl_istore_2 (pc := 1) C dX5_isStop_1 ?_
  refine gl_iconst (pc := 2) (nI 0) C dX5_isStop_2 (by decide) ?_
  refine gl_istore_3 (pc := 3) C dX5_isStop_3 ?_
  refine gl_iconst (pc := 4) (nI 0) C dX5_isStop_4 (by decide) ?_
  refine gl_istore_4 (pc := 5) C dX5_isStop_5 ?_
  refine gl_loop (pc := 7) (n := n) (fun k => [some (.ref (gl_r V.1 0)), some (.int (nI c)), some (.int (if sp_isO M (nI c) (M (iC c 3)) k = true then nI 1 else nI 0)), some (.int (if sp_isT M (nI c) (M (iC c 3)) k = true then nI 1 else nI 0)), some (.int (nI k))]) (fun k => M) (fun k => True) 0 (Nat.zero_le _) (trivial) (gl_le_c (rfl) (gl_le_c (rfl) (gl_le_c (rfl) (gl_le_c (rfl) (gl_le_c (rfl) (gl_le_n)))))) (rfl) (fun hI => ?_) (fun k hk hI ih => ?_)
  · skip
    refine gl_iload_4 (pc := 7) C dX5_isStop_7 ?_
    refine gl_aload_0 (pc := 9) C dX5_isStop_9 ?_
    refine gl_getR (pc := 10) C dX5_isStop_10 fX5_isStop_7 rfl rfl ?_
    refine gl_iconst (pc := 13) (nI 2) C dX5_isStop_13 (by decide) ?_
    refine gl_iald (pc := 14) _ C dX5_isStop_14 rfl rfl (by omega) ?_
    refine gl_top hn ?_
    refine gl_icmp_ge (pc := 15) 64 C dX5_isStop_15 (by decide) (fun h15 => ?_) (fun h15 => absurd h15 (gl_xge))
    refine gl_iload_2 (pc := 64) C dX5_isStop_64 ?_
    refine gl_ifne (pc := 65) 87 C dX5_isStop_65 (by decide) (fun h65 => ?_) (fun h65 => ?_)
    · skip
      replace h65 := gl_bn.mp h65
      refine gl_iconst (pc := 87) (nI 1) C dX5_isStop_87 (by decide) ?_
      refine gl_goto (pc := 88) 92 C dX5_isStop_88 (by decide) ?_
      exact gl_zret (pc := 92) C dX5_isStop_92 (by rfl) (by grind) (rfl)
    · skip
      replace h65 := gl_bz.mp h65
      refine gl_iload_3 (pc := 68) C dX5_isStop_68 ?_
      refine gl_ifeq (pc := 69) 91 C dX5_isStop_69 (by decide) (fun h69 => ?_) (fun h69 => ?_)
      · skip
        replace h69 := gl_bz.mp h69
        refine gl_iconst (pc := 91) (nI 0) C dX5_isStop_91 (by decide) ?_
        exact gl_zret (pc := 92) C dX5_isStop_92 (by rfl) (by grind) (rfl)
      · skip
        replace h69 := gl_bn.mp h69
        refine gl_aload_0 (pc := 72) C dX5_isStop_72 ?_
        refine gl_iload_1 (pc := 73) C dX5_isStop_73 ?_
        refine gl_iconst (pc := 74) (nI 2) C dX5_isStop_74 (by decide) ?_
        refine gl_callVi (pc := 75) (ctX5_many V.1 hn40 hn (nI c) (nI 2)) C dX5_isStop_75 gX5_isStop_X5_many rfl hdX5_many ⟨rfl, rfl, Nat.le_of_ble_eq_true rfl, Nat.le_of_ble_eq_true rfl⟩ rfl (Nat.le_of_ble_eq_true rfl) rfl rfl rfl ?_
        refine gl_aload_0 (pc := 78) C dX5_isStop_78 ?_
        refine gl_iload_1 (pc := 79) C dX5_isStop_79 ?_
        refine gl_iconst (pc := 80) (nI 2) C dX5_isStop_80 (by decide) ?_
        refine gl_callVi (pc := 81) (ctX5_ofCar V.1 M c 2 (by omega) (by omega)) C dX5_isStop_81 gX5_isStop_X5_ofCar rfl hdX5_ofCar ⟨rfl, rfl, Nat.le_of_ble_eq_true rfl, Nat.le_of_ble_eq_true rfl⟩ rfl (Nat.le_of_ble_eq_true rfl) rfl rfl rfl ?_
        refine gl_icmp_ge (pc := 84) 91 C dX5_isStop_84 (by decide) (fun h84 => ?_) (fun h84 => ?_)
        · skip
          refine gl_iconst (pc := 91) (nI 0) C dX5_isStop_91 (by decide) ?_
          exact gl_zret (pc := 92) C dX5_isStop_92 (by rfl) (by grind) (rfl)
        · skip
          refine gl_iconst (pc := 87) (nI 1) C dX5_isStop_87 (by decide) ?_
          refine gl_goto (pc := 88) 92 C dX5_isStop_88 (by decide) ?_
          exact gl_zret (pc := 92) C dX5_isStop_92 (by rfl) (by grind) (rfl)
  · skip
    refine gl_iload_4 (pc := 7) C dX5_isStop_7 ?_
    refine gl_aload_0 (pc := 9) C dX5_isStop_9 ?_
    refine gl_getR (pc := 10) C dX5_isStop_10 fX5_isStop_7 rfl rfl ?_
    refine gl_iconst (pc := 13) (nI 2) C dX5_isStop_13 (by decide) ?_
    refine gl_iald (pc := 14) _ C dX5_isStop_14 rfl rfl (by omega) ?_
    refine gl_top hn ?_
    refine gl_icmp_ge (pc := 15) 64 C dX5_isStop_15 (by decide) (fun h15 => absurd h15 (nI_ge hk (by omega))) (fun h15 => ?_)
    refine gl_iload_2 (pc := 18) C dX5_isStop_18 ?_
    refine gl_ifne (pc := 19) 32 C dX5_isStop_19 (by decide) (fun h19 => ?_) (fun h19 => ?_)
    · skip
      replace h19 := gl_bn.mp h19
      refine gl_iconst (pc := 32) (nI 1) C dX5_isStop_32 (by decide) ?_
      refine gl_goto (pc := 33) 37 C dX5_isStop_33 (by decide) ?_
      refine gl_istore_2 (pc := 37) C dX5_isStop_37 ?_
      refine gl_iload_3 (pc := 38) C dX5_isStop_38 ?_
      refine gl_ifne (pc := 39) 52 C dX5_isStop_39 (by decide) (fun h39 => ?_) (fun h39 => ?_)
      · skip
        replace h39 := gl_bn.mp h39
        refine gl_iconst (pc := 52) (nI 1) C dX5_isStop_52 (by decide) ?_
        refine gl_goto (pc := 53) 57 C dX5_isStop_53 (by decide) ?_
        refine gl_istore_3 (pc := 57) C dX5_isStop_57 ?_
        first | with_reducible refine gl_iincN_4 (pc := 58) gl_i1 C dX5_isStop_58 ?_ | refine gl_iinc_4 (pc := 58) C dX5_isStop_58 (gl_inc1 _) ?_
        refine gl_goto (pc := 61) 7 C dX5_isStop_61 (by decide) ?_
        exact gl_on (ih (trivial)) (gl_le_c (rfl) (gl_le_c (rfl) (gl_le_c (congrArg Value.int (by grind [sp_isO])) (gl_le_c (congrArg Value.int (by grind [sp_isT])) (gl_le_c (rfl) (gl_le_n)))))) (rfl)
      · skip
        replace h39 := gl_bz.mp h39
        refine gl_aload_0 (pc := 42) C dX5_isStop_42 ?_
        refine gl_iload_4 (pc := 43) C dX5_isStop_43 ?_
        refine gl_iload_1 (pc := 45) C dX5_isStop_45 ?_
        refine gl_callVi (pc := 46) (ctX5_isTaken V.1 M k c (by omega) (by omega)) C dX5_isStop_46 gX5_isStop_X5_isTaken rfl hdX5_isTaken ⟨rfl, rfl, Nat.le_of_ble_eq_true rfl, Nat.le_of_ble_eq_true rfl⟩ rfl (Nat.le_of_ble_eq_true rfl) rfl rfl rfl ?_
        refine gl_ifeq (pc := 49) 56 C dX5_isStop_49 (by decide) (fun h49 => ?_) (fun h49 => ?_)
        · skip
          replace h49 := gl_bz.mp h49
          refine gl_iconst (pc := 56) (nI 0) C dX5_isStop_56 (by decide) ?_
          refine gl_istore_3 (pc := 57) C dX5_isStop_57 ?_
          first | with_reducible refine gl_iincN_4 (pc := 58) gl_i1 C dX5_isStop_58 ?_ | refine gl_iinc_4 (pc := 58) C dX5_isStop_58 (gl_inc1 _) ?_
          refine gl_goto (pc := 61) 7 C dX5_isStop_61 (by decide) ?_
          exact gl_on (ih (trivial)) (gl_le_c (rfl) (gl_le_c (rfl) (gl_le_c (congrArg Value.int (by grind [sp_isO])) (gl_le_c (congrArg Value.int (by grind [sp_isT])) (gl_le_c (rfl) (gl_le_n)))))) (rfl)
        · skip
          replace h49 := gl_bn.mp h49
          refine gl_iconst (pc := 52) (nI 1) C dX5_isStop_52 (by decide) ?_
          refine gl_goto (pc := 53) 57 C dX5_isStop_53 (by decide) ?_
          refine gl_istore_3 (pc := 57) C dX5_isStop_57 ?_
          first | with_reducible refine gl_iincN_4 (pc := 58) gl_i1 C dX5_isStop_58 ?_ | refine gl_iinc_4 (pc := 58) C dX5_isStop_58 (gl_inc1 _) ?_
          refine gl_goto (pc := 61) 7 C dX5_isStop_61 (by decide) ?_
          exact gl_on (ih (trivial)) (gl_le_c (rfl) (gl_le_c (rfl) (gl_le_c (congrArg Value.int (by grind [sp_isO])) (gl_le_c (congrArg Value.int (by grind [sp_isT])) (gl_le_c (rfl) (gl_le_n)))))) (rfl)
    · skip
      replace h19 := gl_bz.mp h19
      refine gl_aload_0 (pc := 22) C dX5_isStop_22 ?_
      refine gl_iload_4 (pc := 23) C dX5_isStop_23 ?_
      refine gl_iload_1 (pc := 25) C dX5_isStop_25 ?_
      refine gl_callVi (pc := 26) (ctX5_isOut V.1 M k c (by omega) (by omega)) C dX5_isStop_26 gX5_isStop_X5_isOut rfl hdX5_isOut ⟨rfl, rfl, Nat.le_of_ble_eq_true rfl, Nat.le_of_ble_eq_true rfl⟩ rfl (Nat.le_of_ble_eq_true rfl) rfl rfl rfl ?_
      refine gl_ifeq (pc := 29) 36 C dX5_isStop_29 (by decide) (fun h29 => ?_) (fun h29 => ?_)
      · skip
        replace h29 := gl_bz.mp h29
        refine gl_iconst (pc := 36) (nI 0) C dX5_isStop_36 (by decide) ?_
        refine gl_istore_2 (pc := 37) C dX5_isStop_37 ?_
        refine gl_iload_3 (pc := 38) C dX5_isStop_38 ?_
        refine gl_ifne (pc := 39) 52 C dX5_isStop_39 (by decide) (fun h39 => ?_) (fun h39 => ?_)
        · skip
          replace h39 := gl_bn.mp h39
          refine gl_iconst (pc := 52) (nI 1) C dX5_isStop_52 (by decide) ?_
          refine gl_goto (pc := 53) 57 C dX5_isStop_53 (by decide) ?_
          refine gl_istore_3 (pc := 57) C dX5_isStop_57 ?_
          first | with_reducible refine gl_iincN_4 (pc := 58) gl_i1 C dX5_isStop_58 ?_ | refine gl_iinc_4 (pc := 58) C dX5_isStop_58 (gl_inc1 _) ?_
          refine gl_goto (pc := 61) 7 C dX5_isStop_61 (by decide) ?_
          exact gl_on (ih (trivial)) (gl_le_c (rfl) (gl_le_c (rfl) (gl_le_c (congrArg Value.int (by grind [sp_isO])) (gl_le_c (congrArg Value.int (by grind [sp_isT])) (gl_le_c (rfl) (gl_le_n)))))) (rfl)
        · skip
          replace h39 := gl_bz.mp h39
          refine gl_aload_0 (pc := 42) C dX5_isStop_42 ?_
          refine gl_iload_4 (pc := 43) C dX5_isStop_43 ?_
          refine gl_iload_1 (pc := 45) C dX5_isStop_45 ?_
          refine gl_callVi (pc := 46) (ctX5_isTaken V.1 M k c (by omega) (by omega)) C dX5_isStop_46 gX5_isStop_X5_isTaken rfl hdX5_isTaken ⟨rfl, rfl, Nat.le_of_ble_eq_true rfl, Nat.le_of_ble_eq_true rfl⟩ rfl (Nat.le_of_ble_eq_true rfl) rfl rfl rfl ?_
          refine gl_ifeq (pc := 49) 56 C dX5_isStop_49 (by decide) (fun h49 => ?_) (fun h49 => ?_)
          · skip
            replace h49 := gl_bz.mp h49
            refine gl_iconst (pc := 56) (nI 0) C dX5_isStop_56 (by decide) ?_
            refine gl_istore_3 (pc := 57) C dX5_isStop_57 ?_
            first | with_reducible refine gl_iincN_4 (pc := 58) gl_i1 C dX5_isStop_58 ?_ | refine gl_iinc_4 (pc := 58) C dX5_isStop_58 (gl_inc1 _) ?_
            refine gl_goto (pc := 61) 7 C dX5_isStop_61 (by decide) ?_
            exact gl_on (ih (trivial)) (gl_le_c (rfl) (gl_le_c (rfl) (gl_le_c (congrArg Value.int (by grind [sp_isO])) (gl_le_c (congrArg Value.int (by grind [sp_isT])) (gl_le_c (rfl) (gl_le_n)))))) (rfl)
          · skip
            replace h49 := gl_bn.mp h49
            refine gl_iconst (pc := 52) (nI 1) C dX5_isStop_52 (by decide) ?_
            refine gl_goto (pc := 53) 57 C dX5_isStop_53 (by decide) ?_
            refine gl_istore_3 (pc := 57) C dX5_isStop_57 ?_
            first | with_reducible refine gl_iincN_4 (pc := 58) gl_i1 C dX5_isStop_58 ?_ | refine gl_iinc_4 (pc := 58) C dX5_isStop_58 (gl_inc1 _) ?_
            refine gl_goto (pc := 61) 7 C dX5_isStop_61 (by decide) ?_
            exact gl_on (ih (trivial)) (gl_le_c (rfl) (gl_le_c (rfl) (gl_le_c (congrArg Value.int (by grind [sp_isO])) (gl_le_c (congrArg Value.int (by grind [sp_isT])) (gl_le_c (rfl) (gl_le_n)))))) (rfl)
      · skip
        replace h29 := gl_bn.mp h29
        refine gl_iconst (pc := 32) (nI 1) C dX5_isStop_32 (by decide) ?_
        refine gl_goto (pc := 33) 37 C dX5_isStop_33 (by decide) ?_
        refine gl_istore_2 (pc := 37) C dX5_isStop_37 ?_
        refine gl_iload_3 (pc := 38) C dX5_isStop_38 ?_
        refine gl_ifne (pc := 39) 52 C dX5_isStop_39 (by decide) (fun h39 => ?_) (fun h39 => ?_)
        · skip
          replace h39 := gl_bn.mp h39
          refine gl_iconst (pc := 52) (nI 1) C dX5_isStop_52 (by decide) ?_
          refine gl_goto (pc := 53) 57 C dX5_isStop_53 (by decide) ?_
          refine gl_istore_3 (pc := 57) C dX5_isStop_57 ?_
          first | with_reducible refine gl_iincN_4 (pc := 58) gl_i1 C dX5_isStop_58 ?_ | refine gl_iinc_4 (pc := 58) C dX5_isStop_58 (gl_inc1 _) ?_
          refine gl_goto (pc := 61) 7 C dX5_isStop_61 (by decide) ?_
          exact gl_on (ih (trivial)) (gl_le_c (rfl) (gl_le_c (rfl) (gl_le_c (congrArg Value.int (by grind [sp_isO])) (gl_le_c (congrArg Value.int (by grind [sp_isT])) (gl_le_c (rfl) (gl_le_n)))))) (rfl)
        · skip
          replace h39 := gl_bz.mp h39
          refine gl_aload_0 (pc := 42) C dX5_isStop_42 ?_
          refine gl_iload_4 (pc := 43) C dX5_isStop_43 ?_
          refine gl_iload_1 (pc := 45) C dX5_isStop_45 ?_
          refine gl_callVi (pc := 46) (ctX5_isTaken V.1 M k c (by omega) (by omega)) C dX5_isStop_46 gX5_isStop_X5_isTaken rfl hdX5_isTaken ⟨rfl, rfl, Nat.le_of_ble_eq_true rfl, Nat.le_of_ble_eq_true rfl⟩ rfl (Nat.le_of_ble_eq_true rfl) rfl rfl rfl ?_
          refine gl_ifeq (pc := 49) 56 C dX5_isStop_49 (by decide) (fun h49 => ?_) (fun h49 => ?_)
          · skip
            replace h49 := gl_bz.mp h49
            refine gl_iconst (pc := 56) (nI 0) C dX5_isStop_56 (by decide) ?_
            refine gl_istore_3 (pc := 57) C dX5_isStop_57 ?_
            first | with_reducible refine gl_iincN_4 (pc := 58) gl_i1 C dX5_isStop_58 ?_ | refine gl_iinc_4 (pc := 58) C dX5_isStop_58 (gl_inc1 _) ?_
            refine gl_goto (pc := 61) 7 C dX5_isStop_61 (by decide) ?_
            exact gl_on (ih (trivial)) (gl_le_c (rfl) (gl_le_c (rfl) (gl_le_c (congrArg Value.int (by grind [sp_isO])) (gl_le_c (congrArg Value.int (by grind [sp_isT])) (gl_le_c (rfl) (gl_le_n)))))) (rfl)
          · skip
            replace h49 := gl_bn.mp h49
            refine gl_iconst (pc := 52) (nI 1) C dX5_isStop_52 (by decide) ?_
            refine gl_goto (pc := 53) 57 C dX5_isStop_53 (by decide) ?_
            refine gl_istore_3 (pc := 57) C dX5_isStop_57 ?_
            first | with_reducible refine gl_iincN_4 (pc := 58) gl_i1 C dX5_isStop_58 ?_ | refine gl_iinc_4 (pc := 58) C dX5_isStop_58 (gl_inc1 _) ?_
            refine gl_goto (pc := 61) 7 C dX5_isStop_61 (by decide) ?_
            exact gl_on (ih (trivial)) (gl_le_c (rfl) (gl_le_c (rfl) (gl_le_c (congrArg Value.int (by grind [sp_isO])) (gl_le_c (congrArg Value.int (by grind [sp_isT])) (gl_le_c (rfl) (gl_le_n)))))) (rfl)
set_option maxRecDepth 100000 in
set_option maxHeartbeats 4000000 in
theorem ctX5_stopsNow (F : gl_F) {n m t : Nat} {M : Nat → Int32} (w : sp_W n m t M) (c : Nat) (hc : c < m) : gl_Ct F LM yX5_stopsNow wsX5_stopsNow rmX5_stopsNow [.ref (gl_r F 0), .int (nI c)] M (none) (upd (sp_two M (nI c) (M (iC c 3)) (M (iC c 2)) (nI t) n) 3 (sp_two M (nI c) (M (iC c 3)) (M (iC c 2)) (nI t) n 3 + nI 1)) := by
  refine gl_met (cc := cX5_stopsNow) (maxL := 3) (ret := none) [some (.ref (gl_r F 0)), some (.int (nI c)), none] (plainFor_of_name (by decide)) rfl ok_LM (by simp [Value.category]) (Nat.le_of_ble_eq_true rfl) rfl (fun V hV C => ?_)
  subst hV
  obtain ⟨hn40, hm5, hn, hm, ht, hcar, hcal⟩ := id w
  have wn := sp_outs_W (c := nI c) (fl := (M (iC c 3))) (tk := nI t) w n (Nat.le_refl _)
  refine gl_iconst (pc := 0) (nI 0) C dX5_stopsNow_0 (by decide) ?_
  refine gl_istore_2 (pc := 1) C dX5_stopsNow_1 ?_
  refine gl_loop (pc := 2) (n := n) (fun k => [some (.ref (gl_r V.1 0)), some (.int (nI c)), some (.int (nI k))]) (fun k => (sp_outs M (nI c) (M (iC c 3)) (nI t) k)) (fun k => True) 0 (Nat.zero_le _) (trivial) (gl_le_c (rfl) (gl_le_c (rfl) (gl_le_c (rfl) (gl_le_n)))) (rfl) (fun hI => ?_) (fun k hk hI ih => ?_)
  · skip
    refine gl_iload_2 (pc := 2) C dX5_stopsNow_2 ?_
    refine gl_aload_0 (pc := 3) C dX5_stopsNow_3 ?_
    refine gl_getR (pc := 4) C dX5_stopsNow_4 fX5_stopsNow_7 rfl rfl ?_
    refine gl_iconst (pc := 7) (nI 2) C dX5_stopsNow_7 (by decide) ?_
    refine gl_iald (pc := 8) _ C dX5_stopsNow_8 rfl rfl (by omega) ?_
    refine gl_top wn.2.2.1 ?_
    refine gl_icmp_ge (pc := 9) 47 C dX5_stopsNow_9 (by decide) (fun h9 => ?_) (fun h9 => absurd h9 (gl_xge))
    refine gl_iconst (pc := 47) (nI 0) C dX5_stopsNow_47 (by decide) ?_
    refine gl_istore_2 (pc := 48) C dX5_stopsNow_48 ?_
    refine gl_loop (pc := 49) (n := n) (fun k => [some (.ref (gl_r V.1 0)), some (.int (nI c)), some (.int (nI k))]) (fun k => (sp_tak (sp_outs M (nI c) (M (iC c 3)) (nI t) n) (nI c) (M (iC c 3)) (M (iC c 2)) (nI t) n k)) (fun k => True) 0 (Nat.zero_le _) (trivial) (gl_le_c (rfl) (gl_le_c (rfl) (gl_le_c (rfl) (gl_le_n)))) (rfl) (fun hI => ?_) (fun k hk hI ih => ?_)
    · skip
      refine gl_iload_2 (pc := 49) C dX5_stopsNow_49 ?_
      refine gl_aload_0 (pc := 50) C dX5_stopsNow_50 ?_
      refine gl_getR (pc := 51) C dX5_stopsNow_51 fX5_stopsNow_7 rfl rfl ?_
      refine gl_iconst (pc := 54) (nI 2) C dX5_stopsNow_54 (by decide) ?_
      refine gl_iald (pc := 55) _ C dX5_stopsNow_55 rfl rfl (by omega) ?_
      refine gl_top (sp_tak_W wn n (Nat.le_refl _)).2.2.1 ?_
      refine gl_icmp_ge (pc := 56) 108 C dX5_stopsNow_56 (by decide) (fun h56 => ?_) (fun h56 => absurd h56 (gl_xge))
      refine gl_aload_0 (pc := 108) C dX5_stopsNow_108 ?_
      refine gl_getR (pc := 109) C dX5_stopsNow_109 fX5_stopsNow_7 rfl rfl ?_
      refine gl_iconst (pc := 112) (nI 3) C dX5_stopsNow_112 (by decide) ?_
      refine gl_dup2 (pc := 113) C dX5_stopsNow_113 ?_
      refine gl_iald (pc := 114) _ C dX5_stopsNow_114 rfl rfl (by omega) ?_
      refine gl_iconst (pc := 115) (nI 1) C dX5_stopsNow_115 (by decide) ?_
      first | with_reducible refine gl_iaddN (pc := 116) C dX5_stopsNow_116 ?_ | refine gl_iadd (pc := 116) C dX5_stopsNow_116 ?_
      refine gl_iast (pc := 117) _ C dX5_stopsNow_117 rfl rfl (by omega) ?_
      exact gl_vret (pc := 118) C dX5_stopsNow_118 (rfl)
    · skip
      have wk := sp_tak_W (c := nI c) (fl := (M (iC c 3))) (pl := (M (iC c 2))) (tk := nI t) wn k (Nat.le_of_lt hk)
      refine gl_iload_2 (pc := 49) C dX5_stopsNow_49 ?_
      refine gl_aload_0 (pc := 50) C dX5_stopsNow_50 ?_
      refine gl_getR (pc := 51) C dX5_stopsNow_51 fX5_stopsNow_7 rfl rfl ?_
      refine gl_iconst (pc := 54) (nI 2) C dX5_stopsNow_54 (by decide) ?_
      refine gl_iald (pc := 55) _ C dX5_stopsNow_55 rfl rfl (by omega) ?_
      refine gl_top wk.2.2.1 ?_
      refine gl_icmp_ge (pc := 56) 108 C dX5_stopsNow_56 (by decide) (fun h56 => absurd h56 (nI_ge hk (by omega))) (fun h56 => ?_)
      refine gl_aload_0 (pc := 59) C dX5_stopsNow_59 ?_
      refine gl_iload_2 (pc := 60) C dX5_stopsNow_60 ?_
      refine gl_iload_1 (pc := 61) C dX5_stopsNow_61 ?_
      refine gl_callVi (pc := 62) (ctX5_isTaken V.1 (sp_tak (sp_outs M (nI c) (M (iC c 3)) (nI t) n) (nI c) (M (iC c 3)) (M (iC c 2)) (nI t) n k) k c (by omega) (by omega)) C dX5_stopsNow_62 gX5_stopsNow_X5_isTaken rfl hdX5_isTaken ⟨rfl, rfl, Nat.le_of_ble_eq_true rfl, Nat.le_of_ble_eq_true rfl⟩ rfl (Nat.le_of_ble_eq_true rfl) rfl rfl rfl ?_
      refine gl_ifeq (pc := 65) 102 C dX5_stopsNow_65 (by decide) (fun h65 => ?_) (fun h65 => ?_)
      · skip
        replace h65 := gl_bz.mp h65
        rw [((sp_tak_o (fun j => ⟨iCK (by omega) (by omega), iCK (by omega) (by omega)⟩) _).trans (sp_outs_o (fun j => ⟨iCK (by omega) (by omega), iCK (by omega) (by omega)⟩) _))] at h65
        first | with_reducible refine gl_iincN_2 (pc := 102) gl_i1 C dX5_stopsNow_102 ?_ | refine gl_iinc_2 (pc := 102) C dX5_stopsNow_102 (gl_inc1 _) ?_
        refine gl_goto (pc := 105) 49 C dX5_stopsNow_105 (by decide) ?_
        exact gl_on (ih (trivial)) (gl_le_c (rfl) (gl_le_c (rfl) (gl_le_c (rfl) (gl_le_n)))) (by grind [sp_tak])
      · skip
        replace h65 := gl_bn.mp h65
        rw [((sp_tak_o (fun j => ⟨iCK (by omega) (by omega), iCK (by omega) (by omega)⟩) _).trans (sp_outs_o (fun j => ⟨iCK (by omega) (by omega), iCK (by omega) (by omega)⟩) _))] at h65
        refine gl_aload_0 (pc := 68) C dX5_stopsNow_68 ?_
        refine gl_iload_1 (pc := 69) C dX5_stopsNow_69 ?_
        refine gl_iconst (pc := 70) (nI 2) C dX5_stopsNow_70 (by decide) ?_
        refine gl_callVi (pc := 71) (ctX5_many V.1 hn40 wk.2.2.1 (nI c) (nI 2)) C dX5_stopsNow_71 gX5_stopsNow_X5_many rfl hdX5_many ⟨rfl, rfl, Nat.le_of_ble_eq_true rfl, Nat.le_of_ble_eq_true rfl⟩ rfl (Nat.le_of_ble_eq_true rfl) rfl rfl rfl ?_
        refine gl_aload_0 (pc := 74) C dX5_stopsNow_74 ?_
        refine gl_iload_1 (pc := 75) C dX5_stopsNow_75 ?_
        refine gl_iconst (pc := 76) (nI 2) C dX5_stopsNow_76 (by decide) ?_
        refine gl_callVi (pc := 77) (ctX5_ofCar V.1 _ c 2 (by omega) (by omega)) C dX5_stopsNow_77 gX5_stopsNow_X5_ofCar rfl hdX5_ofCar ⟨rfl, rfl, Nat.le_of_ble_eq_true rfl, Nat.le_of_ble_eq_true rfl⟩ rfl (Nat.le_of_ble_eq_true rfl) rfl rfl rfl ?_
        refine gl_top ((sp_tak_o (fun j => ⟨iCK (by omega) (by omega), iCK (by omega) (by omega)⟩) _).trans (sp_outs_o (fun j => ⟨iCK (by omega) (by omega), iCK (by omega) (by omega)⟩) _)) ?_
        refine gl_icmp_ge (pc := 80) 102 C dX5_stopsNow_80 (by decide) (fun h80 => ?_) (fun h80 => ?_)
        · skip
          first | with_reducible refine gl_iincN_2 (pc := 102) gl_i1 C dX5_stopsNow_102 ?_ | refine gl_iinc_2 (pc := 102) C dX5_stopsNow_102 (gl_inc1 _) ?_
          refine gl_goto (pc := 105) 49 C dX5_stopsNow_105 (by decide) ?_
          exact gl_on (ih (trivial)) (gl_le_c (rfl) (gl_le_c (rfl) (gl_le_c (rfl) (gl_le_n)))) (by grind [sp_tak])
        · skip
          refine gl_aload_0 (pc := 83) C dX5_stopsNow_83 ?_
          refine gl_iload_2 (pc := 84) C dX5_stopsNow_84 ?_
          refine gl_iconst (pc := 85) (nI 2) C dX5_stopsNow_85 (by decide) ?_
          refine gl_iconst (pc := 86) (nI 2) C dX5_stopsNow_86 (by decide) ?_
          refine gl_callVv (pc := 87) (ctX5_puts V.1 _ k 2 (by omega) (by omega) _) C dX5_stopsNow_87 gX5_stopsNow_X5_puts rfl hdX5_puts ⟨rfl, rfl, Nat.le_of_ble_eq_true rfl, Nat.le_of_ble_eq_true rfl⟩ rfl (Nat.le_of_ble_eq_true rfl) rfl rfl rfl ?_
          refine gl_aload_0 (pc := 90) C dX5_stopsNow_90 ?_
          refine gl_iload_2 (pc := 91) C dX5_stopsNow_91 ?_
          refine gl_iconst (pc := 92) (nI 5) C dX5_stopsNow_92 (by decide) ?_
          refine gl_aload_0 (pc := 93) C dX5_stopsNow_93 ?_
          refine gl_getR (pc := 94) C dX5_stopsNow_94 fX5_stopsNow_7 rfl rfl ?_
          refine gl_iconst (pc := 97) (nI 0) C dX5_stopsNow_97 (by decide) ?_
          refine gl_iald (pc := 98) _ C dX5_stopsNow_98 rfl rfl (by omega) ?_
          refine gl_top ((gl_upd_ne (by unfold iK; omega)).trans wk.2.2.2.2.1) ?_
          refine gl_callVv (pc := 99) (ctX5_puts V.1 _ k 5 (by omega) (by omega) _) C dX5_stopsNow_99 gX5_stopsNow_X5_puts rfl hdX5_puts ⟨rfl, rfl, Nat.le_of_ble_eq_true rfl, Nat.le_of_ble_eq_true rfl⟩ rfl (Nat.le_of_ble_eq_true rfl) rfl rfl rfl ?_
          first | with_reducible refine gl_iincN_2 (pc := 102) gl_i1 C dX5_stopsNow_102 ?_ | refine gl_iinc_2 (pc := 102) C dX5_stopsNow_102 (gl_inc1 _) ?_
          refine gl_goto (pc := 105) 49 C dX5_stopsNow_105 (by decide) ?_
          exact gl_on (ih (trivial)) (gl_le_c (rfl) (gl_le_c (rfl) (gl_le_c (rfl) (gl_le_n)))) (by grind [sp_tak])
  · skip
    have wk := sp_outs_W (c := nI c) (fl := (M (iC c 3))) (tk := nI t) w k (Nat.le_of_lt hk)
    refine gl_iload_2 (pc := 2) C dX5_stopsNow_2 ?_
    refine gl_aload_0 (pc := 3) C dX5_stopsNow_3 ?_
    refine gl_getR (pc := 4) C dX5_stopsNow_4 fX5_stopsNow_7 rfl rfl ?_
    refine gl_iconst (pc := 7) (nI 2) C dX5_stopsNow_7 (by decide) ?_
    refine gl_iald (pc := 8) _ C dX5_stopsNow_8 rfl rfl (by omega) ?_
    refine gl_top wk.2.2.1 ?_
    refine gl_icmp_ge (pc := 9) 47 C dX5_stopsNow_9 (by decide) (fun h9 => absurd h9 (nI_ge hk (by omega))) (fun h9 => ?_)
    refine gl_aload_0 (pc := 12) C dX5_stopsNow_12 ?_
    refine gl_iload_2 (pc := 13) C dX5_stopsNow_13 ?_
    refine gl_iload_1 (pc := 14) C dX5_stopsNow_14 ?_
    refine gl_callVi (pc := 15) (ctX5_isOut V.1 (sp_outs M (nI c) (M (iC c 3)) (nI t) k) k c (by omega) (by omega)) C dX5_stopsNow_15 gX5_stopsNow_X5_isOut rfl hdX5_isOut ⟨rfl, rfl, Nat.le_of_ble_eq_true rfl, Nat.le_of_ble_eq_true rfl⟩ rfl (Nat.le_of_ble_eq_true rfl) rfl rfl rfl ?_
    refine gl_ifeq (pc := 18) 41 C dX5_stopsNow_18 (by decide) (fun h18 => ?_) (fun h18 => ?_)
    · skip
      replace h18 := gl_bz.mp h18
      rw [(sp_outs_o (fun j => ⟨iCK (by omega) (by omega), iCK (by omega) (by omega)⟩) _)] at h18
      first | with_reducible refine gl_iincN_2 (pc := 41) gl_i1 C dX5_stopsNow_41 ?_ | refine gl_iinc_2 (pc := 41) C dX5_stopsNow_41 (gl_inc1 _) ?_
      refine gl_goto (pc := 44) 2 C dX5_stopsNow_44 (by decide) ?_
      exact gl_on (ih (trivial)) (gl_le_c (rfl) (gl_le_c (rfl) (gl_le_c (rfl) (gl_le_n)))) (by grind [sp_outs])
    · skip
      replace h18 := gl_bn.mp h18
      rw [(sp_outs_o (fun j => ⟨iCK (by omega) (by omega), iCK (by omega) (by omega)⟩) _)] at h18
      refine gl_aload_0 (pc := 21) C dX5_stopsNow_21 ?_
      refine gl_iload_2 (pc := 22) C dX5_stopsNow_22 ?_
      refine gl_iconst (pc := 23) (nI 2) C dX5_stopsNow_23 (by decide) ?_
      refine gl_iconst (pc := 24) (nI 3) C dX5_stopsNow_24 (by decide) ?_
      refine gl_callVv (pc := 25) (ctX5_puts V.1 _ k 2 (by omega) (by omega) _) C dX5_stopsNow_25 gX5_stopsNow_X5_puts rfl hdX5_puts ⟨rfl, rfl, Nat.le_of_ble_eq_true rfl, Nat.le_of_ble_eq_true rfl⟩ rfl (Nat.le_of_ble_eq_true rfl) rfl rfl rfl ?_
      refine gl_aload_0 (pc := 28) C dX5_stopsNow_28 ?_
      refine gl_iload_2 (pc := 29) C dX5_stopsNow_29 ?_
      refine gl_bipush (pc := 30) (nI 6) C dX5_stopsNow_30 (by decide +kernel) ?_
      refine gl_aload_0 (pc := 32) C dX5_stopsNow_32 ?_
      refine gl_getR (pc := 33) C dX5_stopsNow_33 fX5_stopsNow_7 rfl rfl ?_
      refine gl_iconst (pc := 36) (nI 0) C dX5_stopsNow_36 (by decide) ?_
      refine gl_iald (pc := 37) _ C dX5_stopsNow_37 rfl rfl (by omega) ?_
      refine gl_top ((gl_upd_ne (by unfold iK; omega)).trans wk.2.2.2.2.1) ?_
      refine gl_callVv (pc := 38) (ctX5_puts V.1 _ k 6 (by omega) (by omega) _) C dX5_stopsNow_38 gX5_stopsNow_X5_puts rfl hdX5_puts ⟨rfl, rfl, Nat.le_of_ble_eq_true rfl, Nat.le_of_ble_eq_true rfl⟩ rfl (Nat.le_of_ble_eq_true rfl) rfl rfl rfl ?_
      first | with_reducible refine gl_iincN_2 (pc := 41) gl_i1 C dX5_stopsNow_41 ?_ | refine gl_iinc_2 (pc := 41) C dX5_stopsNow_41 (gl_inc1 _) ?_
      refine gl_goto (pc := 44) 2 C dX5_stopsNow_44 (by decide) ?_
      exact gl_on (ih (trivial)) (gl_le_c (rfl) (gl_le_c (rfl) (gl_le_c (rfl) (gl_le_n)))) (by grind [sp_outs])
set_option maxRecDepth 100000 in
set_option maxHeartbeats 4000000 in
theorem ctX5_ticks (F : gl_F) {n m t : Nat} {M : Nat → Int32} (w : sp_W n m t M) (ht31 : t < 2 ^ 31) : gl_Ct F LM yX5_ticks wsX5_ticks rmX5_ticks [.ref (gl_r F 0)] M (none) (sp_tick M t n m) := by
  refine gl_met (cc := cX5_ticks) (maxL := 3) (ret := none) [some (.ref (gl_r F 0)), none, none] (plainFor_of_name (by decide)) rfl ok_LM (by simp [Value.category]) (Nat.le_of_ble_eq_true rfl) rfl (fun V hV C => ?_)
  subst hV
  obtain ⟨hn40, hm5, hn, hm, ht, hcar, hcal⟩ := id w
  have wn := sp_look_W w n (Nat.le_refl _)
  refine gl_iconst (pc := 0) (nI 0) C dX5_ticks_0 (by decide) ?_
  refine gl_istore_1 (pc := 1) C dX5_ticks_1 ?_
  refine gl_loop (pc := 2) (n := n) (fun k => [some (.ref (gl_r V.1 0)), some (.int (nI k)), none]) (fun k => (sp_look M t n m k)) (fun k => True) 0 (Nat.zero_le _) (trivial) (gl_le_c (rfl) (gl_le_c (rfl) (gl_le_o (gl_le_n)))) (rfl) (fun hI => ?_) (fun k hk hI ih => ?_)
  · skip
    refine gl_iload_1 (pc := 2) C dX5_ticks_2 ?_
    refine gl_aload_0 (pc := 3) C dX5_ticks_3 ?_
    refine gl_getR (pc := 4) C dX5_ticks_4 fX5_ticks_7 rfl rfl ?_
    refine gl_iconst (pc := 7) (nI 2) C dX5_ticks_7 (by decide) ?_
    refine gl_iald (pc := 8) _ C dX5_ticks_8 rfl rfl (by omega) ?_
    refine gl_top wn.2.2.1 ?_
    refine gl_icmp_ge (pc := 9) 32 C dX5_ticks_9 (by decide) (fun h9 => ?_) (fun h9 => absurd h9 (gl_xge))
    refine gl_iconst (pc := 32) (nI 0) C dX5_ticks_32 (by decide) ?_
    refine gl_istore_1 (pc := 33) C dX5_ticks_33 ?_
    refine gl_loop (pc := 34) (n := m) (fun c => [some (.ref (gl_r V.1 0)), some (.int (nI c)), none]) (fun c => (sp_cars (sp_look M t n m n) t n c)) (fun c => True) 0 (Nat.zero_le _) (trivial) (gl_le_c (rfl) (gl_le_c (rfl) (gl_le_o (gl_le_n)))) (rfl) (fun hI => ?_) (fun c hc hI ih => ?_)
    · skip
      refine gl_iload_1 (pc := 34) C dX5_ticks_34 ?_
      refine gl_aload_0 (pc := 35) C dX5_ticks_35 ?_
      refine gl_getR (pc := 36) C dX5_ticks_36 fX5_ticks_7 rfl rfl ?_
      refine gl_iconst (pc := 39) (nI 1) C dX5_ticks_39 (by decide) ?_
      refine gl_iald (pc := 40) _ C dX5_ticks_40 rfl rfl (by omega) ?_
      refine gl_top (sp_cars_W wn m (Nat.le_refl _)).2.2.2.1 ?_
      refine gl_icmp_ge (pc := 41) 129 C dX5_ticks_41 (by decide) (fun h41 => ?_) (fun h41 => absurd h41 (gl_xge))
      refine gl_aload_0 (pc := 129) C dX5_ticks_129 ?_
      refine gl_getR (pc := 130) C dX5_ticks_130 fX5_ticks_7 rfl rfl ?_
      refine gl_iconst (pc := 133) (nI 0) C dX5_ticks_133 (by decide) ?_
      refine gl_dup2 (pc := 134) C dX5_ticks_134 ?_
      refine gl_iald (pc := 135) _ C dX5_ticks_135 rfl rfl (by omega) ?_
      refine gl_iconst (pc := 136) (nI 1) C dX5_ticks_136 (by decide) ?_
      first | with_reducible refine gl_iaddN (pc := 137) C dX5_ticks_137 ?_ | refine gl_iadd (pc := 137) C dX5_ticks_137 ?_
      refine gl_iast (pc := 138) _ C dX5_ticks_138 rfl rfl (by omega) ?_
      exact gl_vret (pc := 139) C dX5_ticks_139 (rfl)
    · skip
      have wc := sp_cars_W wn c (Nat.le_of_lt hc)
      refine gl_iload_1 (pc := 34) C dX5_ticks_34 ?_
      refine gl_aload_0 (pc := 35) C dX5_ticks_35 ?_
      refine gl_getR (pc := 36) C dX5_ticks_36 fX5_ticks_7 rfl rfl ?_
      refine gl_iconst (pc := 39) (nI 1) C dX5_ticks_39 (by decide) ?_
      refine gl_iald (pc := 40) _ C dX5_ticks_40 rfl rfl (by omega) ?_
      refine gl_top wc.2.2.2.1 ?_
      refine gl_icmp_ge (pc := 41) 129 C dX5_ticks_41 (by decide) (fun h41 => absurd h41 (nI_ge hc (by omega))) (fun h41 => ?_)
      refine gl_aload_0 (pc := 44) C dX5_ticks_44 ?_
      refine gl_iload_1 (pc := 45) C dX5_ticks_45 ?_
      refine gl_iconst (pc := 46) (nI 4) C dX5_ticks_46 (by decide) ?_
      refine gl_callVi (pc := 47) (ctX5_ofCar V.1 (sp_cars (sp_look M t n m n) t n c) c 4 (by omega) (by omega)) C dX5_ticks_47 gX5_ticks_X5_ofCar rfl hdX5_ofCar ⟨rfl, rfl, Nat.le_of_ble_eq_true rfl, Nat.le_of_ble_eq_true rfl⟩ rfl (Nat.le_of_ble_eq_true rfl) rfl rfl rfl ?_
      refine gl_ifne (pc := 50) 123 C dX5_ticks_50 (by decide) (fun h50 => ?_) (fun h50 => ?_)
      · skip
        first | with_reducible refine gl_iincN_1 (pc := 123) gl_i1 C dX5_ticks_123 ?_ | refine gl_iinc_1 (pc := 123) C dX5_ticks_123 (gl_inc1 _) ?_
        refine gl_goto (pc := 126) 34 C dX5_ticks_126 (by decide) ?_
        exact gl_on (ih (trivial)) (gl_le_c (rfl) (gl_le_c (rfl) (gl_le_o (gl_le_n)))) (by rw [sp_cars, if_neg h50])
      · skip
        refine gl_aload_0 (pc := 53) C dX5_ticks_53 ?_
        refine gl_iload_1 (pc := 54) C dX5_ticks_54 ?_
        refine gl_callVi (pc := 55) (ctX5_aim V.1 wc c hc) C dX5_ticks_55 gX5_ticks_X5_aim rfl hdX5_aim ⟨rfl, rfl, Nat.le_of_ble_eq_true rfl, Nat.le_of_ble_eq_true rfl⟩ rfl (Nat.le_of_ble_eq_true rfl) rfl rfl rfl ?_
        refine gl_istore_2 (pc := 58) C dX5_ticks_58 ?_
        refine gl_aload_0 (pc := 59) C dX5_ticks_59 ?_
        refine gl_iload_1 (pc := 60) C dX5_ticks_60 ?_
        refine gl_callVi (pc := 61) (ctX5_isStop V.1 wc c hc) C dX5_ticks_61 gX5_ticks_X5_isStop rfl hdX5_isStop ⟨rfl, rfl, Nat.le_of_ble_eq_true rfl, Nat.le_of_ble_eq_true rfl⟩ rfl (Nat.le_of_ble_eq_true rfl) rfl rfl rfl ?_
        refine gl_ifeq (pc := 64) 75 C dX5_ticks_64 (by decide) (fun h64 => ?_) (fun h64 => ?_)
        · skip
          replace h64 := gl_bz.mp h64
          refine gl_iload_2 (pc := 75) C dX5_ticks_75 ?_
          refine gl_bipush (pc := 76) (-9) C dX5_ticks_76 (by decide +kernel) ?_
          refine gl_icmp_eq (pc := 78) 123 C dX5_ticks_78 (by decide) (fun h78 => ?_) (fun h78 => ?_)
          · skip
            first | with_reducible refine gl_iincN_1 (pc := 123) gl_i1 C dX5_ticks_123 ?_ | refine gl_iinc_1 (pc := 123) C dX5_ticks_123 (gl_inc1 _) ?_
            refine gl_goto (pc := 126) 34 C dX5_ticks_126 (by decide) ?_
            exact gl_on (ih (trivial)) (gl_le_c (rfl) (gl_le_c (rfl) (gl_le_o (gl_le_n)))) (by rw [sp_cars, if_pos h50, sp_stop, if_neg h64, if_pos h78])
          · skip
            refine gl_aload_0 (pc := 81) C dX5_ticks_81 ?_
            refine gl_iload_1 (pc := 82) C dX5_ticks_82 ?_
            refine gl_iconst (pc := 83) (nI 3) C dX5_ticks_83 (by decide) ?_
            refine gl_aload_0 (pc := 84) C dX5_ticks_84 ?_
            refine gl_iload_1 (pc := 85) C dX5_ticks_85 ?_
            refine gl_iconst (pc := 86) (nI 3) C dX5_ticks_86 (by decide) ?_
            refine gl_callVi (pc := 87) (ctX5_ofCar V.1 (sp_cars (sp_look M t n m n) t n c) c 3 (by omega) (by omega)) C dX5_ticks_87 gX5_ticks_X5_ofCar rfl hdX5_ofCar ⟨rfl, rfl, Nat.le_of_ble_eq_true rfl, Nat.le_of_ble_eq_true rfl⟩ rfl (Nat.le_of_ble_eq_true rfl) rfl rfl rfl ?_
            refine gl_iload_2 (pc := 90) C dX5_ticks_90 ?_
            refine gl_aload_0 (pc := 91) C dX5_ticks_91 ?_
            refine gl_iload_1 (pc := 92) C dX5_ticks_92 ?_
            refine gl_iconst (pc := 93) (nI 3) C dX5_ticks_93 (by decide) ?_
            refine gl_callVi (pc := 94) (ctX5_ofCar V.1 (sp_cars (sp_look M t n m n) t n c) c 3 (by omega) (by omega)) C dX5_ticks_94 gX5_ticks_X5_ofCar rfl hdX5_ofCar ⟨rfl, rfl, Nat.le_of_ble_eq_true rfl, Nat.le_of_ble_eq_true rfl⟩ rfl (Nat.le_of_ble_eq_true rfl) rfl rfl rfl ?_
            refine gl_icmp_le (pc := 97) 104 C dX5_ticks_97 (by decide) (fun h97 => ?_) (fun h97 => ?_)
            · skip
              refine gl_iconst (pc := 104) (-1) C dX5_ticks_104 (by decide) ?_
              first | with_reducible refine gl_iaddN (pc := 105) C dX5_ticks_105 ?_ | refine gl_iadd (pc := 105) C dX5_ticks_105 ?_
              refine gl_callVv (pc := 106) (ctX5_putsCar V.1 (sp_cars (sp_look M t n m n) t n c) c 3 (by omega) (by omega) _) C dX5_ticks_106 gX5_ticks_X5_putsCar rfl hdX5_putsCar ⟨rfl, rfl, Nat.le_of_ble_eq_true rfl, Nat.le_of_ble_eq_true rfl⟩ rfl (Nat.le_of_ble_eq_true rfl) rfl rfl rfl ?_
              refine gl_aload_0 (pc := 109) C dX5_ticks_109 ?_
              refine gl_iload_1 (pc := 110) C dX5_ticks_110 ?_
              refine gl_iconst (pc := 111) (nI 5) C dX5_ticks_111 (by decide) ?_
              refine gl_aload_0 (pc := 112) C dX5_ticks_112 ?_
              refine gl_iload_1 (pc := 113) C dX5_ticks_113 ?_
              refine gl_iconst (pc := 114) (nI 5) C dX5_ticks_114 (by decide) ?_
              refine gl_callVi (pc := 115) (ctX5_ofCar V.1 _ c 5 (by omega) (by omega)) C dX5_ticks_115 gX5_ticks_X5_ofCar rfl hdX5_ofCar ⟨rfl, rfl, Nat.le_of_ble_eq_true rfl, Nat.le_of_ble_eq_true rfl⟩ rfl (Nat.le_of_ble_eq_true rfl) rfl rfl rfl ?_
              refine gl_top (rC (by omega) (by omega) (by omega)) ?_
              refine gl_iconst (pc := 118) (nI 1) C dX5_ticks_118 (by decide) ?_
              first | with_reducible refine gl_iaddN (pc := 119) C dX5_ticks_119 ?_ | refine gl_iadd (pc := 119) C dX5_ticks_119 ?_
              refine gl_callVv (pc := 120) (ctX5_putsCar V.1 _ c 5 (by omega) (by omega) _) C dX5_ticks_120 gX5_ticks_X5_putsCar rfl hdX5_putsCar ⟨rfl, rfl, Nat.le_of_ble_eq_true rfl, Nat.le_of_ble_eq_true rfl⟩ rfl (Nat.le_of_ble_eq_true rfl) rfl rfl rfl ?_
              first | with_reducible refine gl_iincN_1 (pc := 123) gl_i1 C dX5_ticks_123 ?_ | refine gl_iinc_1 (pc := 123) C dX5_ticks_123 (gl_inc1 _) ?_
              refine gl_goto (pc := 126) 34 C dX5_ticks_126 (by decide) ?_
              exact gl_on (ih (trivial)) (gl_le_c (rfl) (gl_le_c (rfl) (gl_le_o (gl_le_n)))) (by rw [sp_cars, if_pos h50, sp_stop, if_neg h64, if_neg h78]; grind [sp_trav])
            · skip
              refine gl_iconst (pc := 100) (nI 1) C dX5_ticks_100 (by decide) ?_
              refine gl_goto (pc := 101) 105 C dX5_ticks_101 (by decide) ?_
              first | with_reducible refine gl_iaddN (pc := 105) C dX5_ticks_105 ?_ | refine gl_iadd (pc := 105) C dX5_ticks_105 ?_
              refine gl_callVv (pc := 106) (ctX5_putsCar V.1 (sp_cars (sp_look M t n m n) t n c) c 3 (by omega) (by omega) _) C dX5_ticks_106 gX5_ticks_X5_putsCar rfl hdX5_putsCar ⟨rfl, rfl, Nat.le_of_ble_eq_true rfl, Nat.le_of_ble_eq_true rfl⟩ rfl (Nat.le_of_ble_eq_true rfl) rfl rfl rfl ?_
              refine gl_aload_0 (pc := 109) C dX5_ticks_109 ?_
              refine gl_iload_1 (pc := 110) C dX5_ticks_110 ?_
              refine gl_iconst (pc := 111) (nI 5) C dX5_ticks_111 (by decide) ?_
              refine gl_aload_0 (pc := 112) C dX5_ticks_112 ?_
              refine gl_iload_1 (pc := 113) C dX5_ticks_113 ?_
              refine gl_iconst (pc := 114) (nI 5) C dX5_ticks_114 (by decide) ?_
              refine gl_callVi (pc := 115) (ctX5_ofCar V.1 _ c 5 (by omega) (by omega)) C dX5_ticks_115 gX5_ticks_X5_ofCar rfl hdX5_ofCar ⟨rfl, rfl, Nat.le_of_ble_eq_true rfl, Nat.le_of_ble_eq_true rfl⟩ rfl (Nat.le_of_ble_eq_true rfl) rfl rfl rfl ?_
              refine gl_top (rC (by omega) (by omega) (by omega)) ?_
              refine gl_iconst (pc := 118) (nI 1) C dX5_ticks_118 (by decide) ?_
              first | with_reducible refine gl_iaddN (pc := 119) C dX5_ticks_119 ?_ | refine gl_iadd (pc := 119) C dX5_ticks_119 ?_
              refine gl_callVv (pc := 120) (ctX5_putsCar V.1 _ c 5 (by omega) (by omega) _) C dX5_ticks_120 gX5_ticks_X5_putsCar rfl hdX5_putsCar ⟨rfl, rfl, Nat.le_of_ble_eq_true rfl, Nat.le_of_ble_eq_true rfl⟩ rfl (Nat.le_of_ble_eq_true rfl) rfl rfl rfl ?_
              first | with_reducible refine gl_iincN_1 (pc := 123) gl_i1 C dX5_ticks_123 ?_ | refine gl_iinc_1 (pc := 123) C dX5_ticks_123 (gl_inc1 _) ?_
              refine gl_goto (pc := 126) 34 C dX5_ticks_126 (by decide) ?_
              exact gl_on (ih (trivial)) (gl_le_c (rfl) (gl_le_c (rfl) (gl_le_o (gl_le_n)))) (by rw [sp_cars, if_pos h50, sp_stop, if_neg h64, if_neg h78]; grind [sp_trav])
        · skip
          replace h64 := gl_bn.mp h64
          refine gl_aload_0 (pc := 67) C dX5_ticks_67 ?_
          refine gl_iload_1 (pc := 68) C dX5_ticks_68 ?_
          refine gl_callVv (pc := 69) (ctX5_stopsNow V.1 wc c hc) C dX5_ticks_69 gX5_ticks_X5_stopsNow rfl hdX5_stopsNow ⟨rfl, rfl, Nat.le_of_ble_eq_true rfl, Nat.le_of_ble_eq_true rfl⟩ rfl (Nat.le_of_ble_eq_true rfl) rfl rfl rfl ?_
          refine gl_goto (pc := 72) 123 C dX5_ticks_72 (by decide) ?_
          first | with_reducible refine gl_iincN_1 (pc := 123) gl_i1 C dX5_ticks_123 ?_ | refine gl_iinc_1 (pc := 123) C dX5_ticks_123 (gl_inc1 _) ?_
          refine gl_goto (pc := 126) 34 C dX5_ticks_126 (by decide) ?_
          exact gl_on (ih (trivial)) (gl_le_c (rfl) (gl_le_c (rfl) (gl_le_o (gl_le_n)))) (by rw [sp_cars, if_pos h50, sp_stop, if_pos h64])
  · skip
    have wk := sp_look_W w k (Nat.le_of_lt hk)
    refine gl_iload_1 (pc := 2) C dX5_ticks_2 ?_
    refine gl_aload_0 (pc := 3) C dX5_ticks_3 ?_
    refine gl_getR (pc := 4) C dX5_ticks_4 fX5_ticks_7 rfl rfl ?_
    refine gl_iconst (pc := 7) (nI 2) C dX5_ticks_7 (by decide) ?_
    refine gl_iald (pc := 8) _ C dX5_ticks_8 rfl rfl (by omega) ?_
    refine gl_top wk.2.2.1 ?_
    refine gl_icmp_ge (pc := 9) 32 C dX5_ticks_9 (by decide) (fun h9 => absurd h9 (nI_ge hk (by omega))) (fun h9 => ?_)
    refine gl_aload_0 (pc := 12) C dX5_ticks_12 ?_
    refine gl_iload_1 (pc := 13) C dX5_ticks_13 ?_
    refine gl_iconst (pc := 14) (nI 2) C dX5_ticks_14 (by decide) ?_
    refine gl_callVi (pc := 15) (ctX5_ofCaller V.1 (sp_look M t n m k) k 2 (by omega) (by omega)) C dX5_ticks_15 gX5_ticks_X5_ofCaller rfl hdX5_ofCaller ⟨rfl, rfl, Nat.le_of_ble_eq_true rfl, Nat.le_of_ble_eq_true rfl⟩ rfl (Nat.le_of_ble_eq_true rfl) rfl rfl rfl ?_
    refine gl_ifne (pc := 18) 26 C dX5_ticks_18 (by decide) (fun h18 => ?_) (fun h18 => ?_)
    · skip
      first | with_reducible refine gl_iincN_1 (pc := 26) gl_i1 C dX5_ticks_26 ?_ | refine gl_iinc_1 (pc := 26) C dX5_ticks_26 (gl_inc1 _) ?_
      refine gl_goto (pc := 29) 2 C dX5_ticks_29 (by decide) ?_
      exact gl_on (ih (trivial)) (gl_le_c (rfl) (gl_le_c (rfl) (gl_le_o (gl_le_n)))) (by grind [sp_look])
    · skip
      refine gl_aload_0 (pc := 21) C dX5_ticks_21 ?_
      refine gl_iload_1 (pc := 22) C dX5_ticks_22 ?_
      refine gl_callVv (pc := 23) (ctX5_gives V.1 wk ht31 k hk) C dX5_ticks_23 gX5_ticks_X5_gives rfl hdX5_gives ⟨rfl, rfl, Nat.le_of_ble_eq_true rfl, Nat.le_of_ble_eq_true rfl⟩ rfl (Nat.le_of_ble_eq_true rfl) rfl rfl rfl ?_
      first | with_reducible refine gl_iincN_1 (pc := 26) gl_i1 C dX5_ticks_26 ?_ | refine gl_iinc_1 (pc := 26) C dX5_ticks_26 (gl_inc1 _) ?_
      refine gl_goto (pc := 29) 2 C dX5_ticks_29 (by decide) ?_
      exact gl_on (ih (trivial)) (gl_le_c (rfl) (gl_le_c (rfl) (gl_le_o (gl_le_n)))) (by grind [sp_look])
set_option maxRecDepth 100000 in
set_option maxHeartbeats 4000000 in
theorem ctX5_fails (F : gl_F) {n m t : Nat} {M : Nat → Int32} (w : sp_W n m t M) (c : Nat) (hc : c < m) : gl_Ct F LM yX5_fails wsX5_fails rmX5_fails [.ref (gl_r F 0), .int (nI c)] M (none) (sp_fail M c t n) := by
  refine gl_met (cc := cX5_fails) (maxL := 4) (ret := none) [some (.ref (gl_r F 0)), some (.int (nI c)), none, none] (plainFor_of_name (by decide)) rfl ok_LM (by simp [Value.category]) (Nat.le_of_ble_eq_true rfl) rfl (fun V hV C => ?_)
  subst hV
  obtain ⟨hn40, hm5, hn, hm, ht, hcar, hcal⟩ := id w
  have hfl := (hcar c hc).2.2.1
  refine gl_iconst (pc := 0) (nI 0) C dX5_fails_0 (by decide) ?_
  refine gl_istore_2 (pc := 1) C dX5_fails_1 ?_
  refine gl_loop (pc := 2) (n := n) (fun k => [some (.ref (gl_r V.1 0)), some (.int (nI c)), some (.int (nI k)), none]) (fun k => (sp_lose M (nI c) (M (iC c 3)) (nI t) k)) (fun k => True) 0 (Nat.zero_le _) (trivial) (gl_le_c (rfl) (gl_le_c (rfl) (gl_le_c (rfl) (gl_le_o (gl_le_n))))) (rfl) (fun hI => ?_) (fun k hk hI ih => ?_)
  · skip
    refine gl_iload_2 (pc := 2) C dX5_fails_2 ?_
    refine gl_aload_0 (pc := 3) C dX5_fails_3 ?_
    refine gl_getR (pc := 4) C dX5_fails_4 fX5_fails_7 rfl rfl ?_
    refine gl_iconst (pc := 7) (nI 2) C dX5_fails_7 (by decide) ?_
    refine gl_iald (pc := 8) _ C dX5_fails_8 rfl rfl (by omega) ?_
    refine gl_top (sp_lose_W w hfl n (Nat.le_refl _)).2.2.1 ?_
    refine gl_icmp_ge (pc := 9) 133 C dX5_fails_9 (by decide) (fun h9 => ?_) (fun h9 => absurd h9 (gl_xge))
    refine gl_aload_0 (pc := 133) C dX5_fails_133 ?_
    refine gl_iload_1 (pc := 134) C dX5_fails_134 ?_
    refine gl_iconst (pc := 135) (nI 4) C dX5_fails_135 (by decide) ?_
    refine gl_iconst (pc := 136) (nI 2) C dX5_fails_136 (by decide) ?_
    refine gl_callVv (pc := 137) (ctX5_putsCar V.1 _ c 4 (by omega) (by omega) _) C dX5_fails_137 gX5_fails_X5_putsCar rfl hdX5_putsCar ⟨rfl, rfl, Nat.le_of_ble_eq_true rfl, Nat.le_of_ble_eq_true rfl⟩ rfl (Nat.le_of_ble_eq_true rfl) rfl rfl rfl ?_
    exact gl_vret (pc := 140) C dX5_fails_140 (by rw [sp_fail, sp_lose_st (by omega)])
  · skip
    have wk := sp_lose_W (c := nI c) (tk := nI t) w hfl k (Nat.le_of_lt hk)
    obtain ⟨q1, q2, q3, q4⟩ := wk.2.2.2.2.2.2 k hk
    have oF : (sp_lose M (nI c) (M (iC c 3)) (nI t) k) (iC c 3) = (M (iC c 3)) := sp_lose_o (fun j w _ => iCK (by omega) (by omega)) k
    refine gl_iload_2 (pc := 2) C dX5_fails_2 ?_
    refine gl_aload_0 (pc := 3) C dX5_fails_3 ?_
    refine gl_getR (pc := 4) C dX5_fails_4 fX5_fails_7 rfl rfl ?_
    refine gl_iconst (pc := 7) (nI 2) C dX5_fails_7 (by decide) ?_
    refine gl_iald (pc := 8) _ C dX5_fails_8 rfl rfl (by omega) ?_
    refine gl_top wk.2.2.1 ?_
    refine gl_icmp_ge (pc := 9) 133 C dX5_fails_9 (by decide) (fun h9 => absurd h9 (nI_ge hk (by omega))) (fun h9 => ?_)
    refine gl_aload_0 (pc := 12) C dX5_fails_12 ?_
    refine gl_iload_2 (pc := 13) C dX5_fails_13 ?_
    refine gl_iconst (pc := 14) (nI 3) C dX5_fails_14 (by decide) ?_
    refine gl_callVi (pc := 15) (ctX5_ofCaller V.1 (sp_lose M (nI c) (M (iC c 3)) (nI t) k) k 3 (by omega) (by omega)) C dX5_fails_15 gX5_fails_X5_ofCaller rfl hdX5_ofCaller ⟨rfl, rfl, Nat.le_of_ble_eq_true rfl, Nat.le_of_ble_eq_true rfl⟩ rfl (Nat.le_of_ble_eq_true rfl) rfl rfl rfl ?_
    refine gl_iload_1 (pc := 18) C dX5_fails_18 ?_
    refine gl_icmp_ne (pc := 19) 127 C dX5_fails_19 (by decide) (fun h19 => ?_) (fun h19 => ?_)
    · skip
      first | with_reducible refine gl_iincN_2 (pc := 127) gl_i1 C dX5_fails_127 ?_ | refine gl_iinc_2 (pc := 127) C dX5_fails_127 (gl_inc1 _) ?_
      refine gl_goto (pc := 130) 2 C dX5_fails_130 (by decide) ?_
      exact gl_on (ih (trivial)) (gl_le_c (rfl) (gl_le_c (rfl) (gl_le_c (rfl) (gl_le_o (gl_le_n))))) (by grind [sp_lose])
    · skip
      refine gl_aload_0 (pc := 22) C dX5_fails_22 ?_
      refine gl_iload_2 (pc := 23) C dX5_fails_23 ?_
      refine gl_iconst (pc := 24) (nI 2) C dX5_fails_24 (by decide) ?_
      refine gl_callVi (pc := 25) (ctX5_ofCaller V.1 (sp_lose M (nI c) (M (iC c 3)) (nI t) k) k 2 (by omega) (by omega)) C dX5_fails_25 gX5_fails_X5_ofCaller rfl hdX5_ofCaller ⟨rfl, rfl, Nat.le_of_ble_eq_true rfl, Nat.le_of_ble_eq_true rfl⟩ rfl (Nat.le_of_ble_eq_true rfl) rfl rfl rfl ?_
      refine gl_iconst (pc := 28) (nI 1) C dX5_fails_28 (by decide) ?_
      refine gl_iconst (pc := 29) (nI 2) C dX5_fails_29 (by decide) ?_
      refine gl_callSi (pc := 30) (ctX5_in V.1 LM ok_LM (sp_lose M (nI c) (M (iC c 3)) (nI t) k) ((sp_lose M (nI c) (M (iC c 3)) (nI t) k) (iK k 2)) (nI 1) (nI 2)) C dX5_fails_30 gX5_fails_X5_in rfl hdX5_in ⟨rfl, rfl, Nat.le_of_ble_eq_true rfl, Nat.le_of_ble_eq_true rfl⟩ rfl (Nat.le_of_ble_eq_true rfl) rfl ?_
      refine gl_ifeq (pc := 33) 127 C dX5_fails_33 (by decide) (fun h33 => ?_) (fun h33 => ?_)
      · skip
        replace h33 := gl_bz.mp h33
        rw [sp_ph q3] at h33
        first | with_reducible refine gl_iincN_2 (pc := 127) gl_i1 C dX5_fails_127 ?_ | refine gl_iinc_2 (pc := 127) C dX5_fails_127 (gl_inc1 _) ?_
        refine gl_goto (pc := 130) 2 C dX5_fails_130 (by decide) ?_
        exact gl_on (ih (trivial)) (gl_le_c (rfl) (gl_le_c (rfl) (gl_le_c (rfl) (gl_le_o (gl_le_n))))) (by grind [sp_lose])
      · skip
        replace h33 := gl_bn.mp h33
        rw [sp_ph q3] at h33
        refine gl_aload_0 (pc := 36) C dX5_fails_36 ?_
        refine gl_iload_2 (pc := 37) C dX5_fails_37 ?_
        refine gl_iload_1 (pc := 38) C dX5_fails_38 ?_
        refine gl_callVi (pc := 39) (ctX5_isOut V.1 (sp_lose M (nI c) (M (iC c 3)) (nI t) k) k c (by omega) (by omega)) C dX5_fails_39 gX5_fails_X5_isOut rfl hdX5_isOut ⟨rfl, rfl, Nat.le_of_ble_eq_true rfl, Nat.le_of_ble_eq_true rfl⟩ rfl (Nat.le_of_ble_eq_true rfl) rfl rfl rfl ?_
        refine gl_istore_3 (pc := 42) C dX5_fails_42 ?_
        refine gl_aload_0 (pc := 43) C dX5_fails_43 ?_
        refine gl_iload_2 (pc := 44) C dX5_fails_44 ?_
        refine gl_iconst (pc := 45) (nI 0) C dX5_fails_45 (by decide) ?_
        refine gl_aload_0 (pc := 46) C dX5_fails_46 ?_
        refine gl_iload_2 (pc := 47) C dX5_fails_47 ?_
        refine gl_iconst (pc := 48) (nI 2) C dX5_fails_48 (by decide) ?_
        refine gl_callVi (pc := 49) (ctX5_ofCaller V.1 (sp_lose M (nI c) (M (iC c 3)) (nI t) k) k 2 (by omega) (by omega)) C dX5_fails_49 gX5_fails_X5_ofCaller rfl hdX5_ofCaller ⟨rfl, rfl, Nat.le_of_ble_eq_true rfl, Nat.le_of_ble_eq_true rfl⟩ rfl (Nat.le_of_ble_eq_true rfl) rfl rfl rfl ?_
        refine gl_iconst (pc := 52) (nI 2) C dX5_fails_52 (by decide) ?_
        refine gl_icmp_ne (pc := 53) 65 C dX5_fails_53 (by decide) (fun h53 => ?_) (fun h53 => ?_)
        · skip
          refine gl_aload_0 (pc := 65) C dX5_fails_65 ?_
          refine gl_iload_2 (pc := 66) C dX5_fails_66 ?_
          refine gl_iconst (pc := 67) (nI 0) C dX5_fails_67 (by decide) ?_
          refine gl_callVi (pc := 68) (ctX5_ofCaller V.1 (sp_lose M (nI c) (M (iC c 3)) (nI t) k) k 0 (by omega) (by omega)) C dX5_fails_68 gX5_fails_X5_ofCaller rfl hdX5_ofCaller ⟨rfl, rfl, Nat.le_of_ble_eq_true rfl, Nat.le_of_ble_eq_true rfl⟩ rfl (Nat.le_of_ble_eq_true rfl) rfl rfl rfl ?_
          refine gl_callVv (pc := 71) (ctX5_puts V.1 _ k 0 (by omega) (by omega) _) C dX5_fails_71 gX5_fails_X5_puts rfl hdX5_puts ⟨rfl, rfl, Nat.le_of_ble_eq_true rfl, Nat.le_of_ble_eq_true rfl⟩ rfl (Nat.le_of_ble_eq_true rfl) rfl rfl rfl ?_
          refine gl_aload_0 (pc := 74) C dX5_fails_74 ?_
          refine gl_iload_2 (pc := 75) C dX5_fails_75 ?_
          refine gl_bipush (pc := 76) (nI 6) C dX5_fails_76 (by decide +kernel) ?_
          refine gl_iload_3 (pc := 78) C dX5_fails_78 ?_
          refine gl_ifeq (pc := 79) 91 C dX5_fails_79 (by decide) (fun h79 => ?_) (fun h79 => ?_)
          · skip
            replace h79 := gl_bz.mp h79
            refine gl_bipush (pc := 91) (-9) C dX5_fails_91 (by decide +kernel) ?_
            refine gl_callVv (pc := 93) (ctX5_puts V.1 _ k 6 (by omega) (by omega) _) C dX5_fails_93 gX5_fails_X5_puts rfl hdX5_puts ⟨rfl, rfl, Nat.le_of_ble_eq_true rfl, Nat.le_of_ble_eq_true rfl⟩ rfl (Nat.le_of_ble_eq_true rfl) rfl rfl rfl ?_
            refine gl_aload_0 (pc := 96) C dX5_fails_96 ?_
            refine gl_iload_2 (pc := 97) C dX5_fails_97 ?_
            refine gl_iconst (pc := 98) (nI 3) C dX5_fails_98 (by decide) ?_
            refine gl_iload_3 (pc := 99) C dX5_fails_99 ?_
            refine gl_ifeq (pc := 100) 107 C dX5_fails_100 (by decide) (fun h100 => ?_) (fun h100 => absurd h100 (not_not_intro (gl_bz.mpr h79)))
            refine gl_bipush (pc := 107) (-9) C dX5_fails_107 (by decide +kernel) ?_
            refine gl_callVv (pc := 109) (ctX5_puts V.1 _ k 3 (by omega) (by omega) _) C dX5_fails_109 gX5_fails_X5_puts rfl hdX5_puts ⟨rfl, rfl, Nat.le_of_ble_eq_true rfl, Nat.le_of_ble_eq_true rfl⟩ rfl (Nat.le_of_ble_eq_true rfl) rfl rfl rfl ?_
            refine gl_aload_0 (pc := 112) C dX5_fails_112 ?_
            refine gl_iload_2 (pc := 113) C dX5_fails_113 ?_
            refine gl_iconst (pc := 114) (nI 2) C dX5_fails_114 (by decide) ?_
            refine gl_iload_3 (pc := 115) C dX5_fails_115 ?_
            refine gl_ifeq (pc := 116) 123 C dX5_fails_116 (by decide) (fun h116 => ?_) (fun h116 => absurd h116 (not_not_intro (gl_bz.mpr h79)))
            refine gl_iconst (pc := 123) (nI 0) C dX5_fails_123 (by decide) ?_
            refine gl_callVv (pc := 124) (ctX5_puts V.1 _ k 2 (by omega) (by omega) _) C dX5_fails_124 gX5_fails_X5_puts rfl hdX5_puts ⟨rfl, rfl, Nat.le_of_ble_eq_true rfl, Nat.le_of_ble_eq_true rfl⟩ rfl (Nat.le_of_ble_eq_true rfl) rfl rfl rfl ?_
            first | with_reducible refine gl_iincN_2 (pc := 127) gl_i1 C dX5_fails_127 ?_ | refine gl_iinc_2 (pc := 127) C dX5_fails_127 (gl_inc1 _) ?_
            refine gl_goto (pc := 130) 2 C dX5_fails_130 (by decide) ?_
            exact gl_on (ih (trivial)) (gl_le_c (rfl) (gl_le_c (rfl) (gl_le_c (rfl) (gl_le_o (gl_le_n))))) (by rw [sp_lose, if_neg (fun q => h53 q.1), if_pos ⟨h33.resolve_right h53, h19⟩]; exact fl_waits (q4 (by rw [h33.resolve_right h53]; decide)))
          · skip
            replace h79 := gl_bn.mp h79
            refine gl_aload_0 (pc := 82) C dX5_fails_82 ?_
            refine gl_getR (pc := 83) C dX5_fails_83 fX5_fails_7 rfl rfl ?_
            refine gl_iconst (pc := 86) (nI 0) C dX5_fails_86 (by decide) ?_
            refine gl_iald (pc := 87) _ C dX5_fails_87 rfl rfl (by omega) ?_
            refine gl_top ((gl_upd_ne (by unfold iK; omega)).trans wk.2.2.2.2.1) ?_
            refine gl_goto (pc := 88) 93 C dX5_fails_88 (by decide) ?_
            refine gl_callVv (pc := 93) (ctX5_puts V.1 _ k 6 (by omega) (by omega) _) C dX5_fails_93 gX5_fails_X5_puts rfl hdX5_puts ⟨rfl, rfl, Nat.le_of_ble_eq_true rfl, Nat.le_of_ble_eq_true rfl⟩ rfl (Nat.le_of_ble_eq_true rfl) rfl rfl rfl ?_
            refine gl_aload_0 (pc := 96) C dX5_fails_96 ?_
            refine gl_iload_2 (pc := 97) C dX5_fails_97 ?_
            refine gl_iconst (pc := 98) (nI 3) C dX5_fails_98 (by decide) ?_
            refine gl_iload_3 (pc := 99) C dX5_fails_99 ?_
            refine gl_ifeq (pc := 100) 107 C dX5_fails_100 (by decide) (fun h100 => absurd h100 (gl_bn.mpr h79)) (fun h100 => ?_)
            refine gl_iload_1 (pc := 103) C dX5_fails_103 ?_
            refine gl_goto (pc := 104) 109 C dX5_fails_104 (by decide) ?_
            refine gl_callVv (pc := 109) (ctX5_puts V.1 _ k 3 (by omega) (by omega) _) C dX5_fails_109 gX5_fails_X5_puts rfl hdX5_puts ⟨rfl, rfl, Nat.le_of_ble_eq_true rfl, Nat.le_of_ble_eq_true rfl⟩ rfl (Nat.le_of_ble_eq_true rfl) rfl rfl rfl ?_
            refine gl_aload_0 (pc := 112) C dX5_fails_112 ?_
            refine gl_iload_2 (pc := 113) C dX5_fails_113 ?_
            refine gl_iconst (pc := 114) (nI 2) C dX5_fails_114 (by decide) ?_
            refine gl_iload_3 (pc := 115) C dX5_fails_115 ?_
            refine gl_ifeq (pc := 116) 123 C dX5_fails_116 (by decide) (fun h116 => absurd h116 (gl_bn.mpr h79)) (fun h116 => ?_)
            refine gl_iconst (pc := 119) (nI 3) C dX5_fails_119 (by decide) ?_
            refine gl_goto (pc := 120) 124 C dX5_fails_120 (by decide) ?_
            refine gl_callVv (pc := 124) (ctX5_puts V.1 _ k 2 (by omega) (by omega) _) C dX5_fails_124 gX5_fails_X5_puts rfl hdX5_puts ⟨rfl, rfl, Nat.le_of_ble_eq_true rfl, Nat.le_of_ble_eq_true rfl⟩ rfl (Nat.le_of_ble_eq_true rfl) rfl rfl rfl ?_
            first | with_reducible refine gl_iincN_2 (pc := 127) gl_i1 C dX5_fails_127 ?_ | refine gl_iinc_2 (pc := 127) C dX5_fails_127 (gl_inc1 _) ?_
            refine gl_goto (pc := 130) 2 C dX5_fails_130 (by decide) ?_
            exact gl_on (ih (trivial)) (gl_le_c (rfl) (gl_le_c (rfl) (gl_le_c (rfl) (gl_le_o (gl_le_n))))) (absurd h79.1.1 h53)
        · skip
          refine gl_aload_0 (pc := 56) C dX5_fails_56 ?_
          refine gl_iload_1 (pc := 57) C dX5_fails_57 ?_
          refine gl_iconst (pc := 58) (nI 3) C dX5_fails_58 (by decide) ?_
          refine gl_callVi (pc := 59) (ctX5_ofCar V.1 (sp_lose M (nI c) (M (iC c 3)) (nI t) k) c 3 (by omega) (by omega)) C dX5_fails_59 gX5_fails_X5_ofCar rfl hdX5_ofCar ⟨rfl, rfl, Nat.le_of_ble_eq_true rfl, Nat.le_of_ble_eq_true rfl⟩ rfl (Nat.le_of_ble_eq_true rfl) rfl rfl rfl ?_
          refine gl_goto (pc := 62) 71 C dX5_fails_62 (by decide) ?_
          refine gl_callVv (pc := 71) (ctX5_puts V.1 _ k 0 (by omega) (by omega) _) C dX5_fails_71 gX5_fails_X5_puts rfl hdX5_puts ⟨rfl, rfl, Nat.le_of_ble_eq_true rfl, Nat.le_of_ble_eq_true rfl⟩ rfl (Nat.le_of_ble_eq_true rfl) rfl rfl rfl ?_
          refine gl_aload_0 (pc := 74) C dX5_fails_74 ?_
          refine gl_iload_2 (pc := 75) C dX5_fails_75 ?_
          refine gl_bipush (pc := 76) (nI 6) C dX5_fails_76 (by decide +kernel) ?_
          refine gl_iload_3 (pc := 78) C dX5_fails_78 ?_
          refine gl_ifeq (pc := 79) 91 C dX5_fails_79 (by decide) (fun h79 => ?_) (fun h79 => ?_)
          · skip
            replace h79 := gl_bz.mp h79
            refine gl_bipush (pc := 91) (-9) C dX5_fails_91 (by decide +kernel) ?_
            refine gl_callVv (pc := 93) (ctX5_puts V.1 _ k 6 (by omega) (by omega) _) C dX5_fails_93 gX5_fails_X5_puts rfl hdX5_puts ⟨rfl, rfl, Nat.le_of_ble_eq_true rfl, Nat.le_of_ble_eq_true rfl⟩ rfl (Nat.le_of_ble_eq_true rfl) rfl rfl rfl ?_
            refine gl_aload_0 (pc := 96) C dX5_fails_96 ?_
            refine gl_iload_2 (pc := 97) C dX5_fails_97 ?_
            refine gl_iconst (pc := 98) (nI 3) C dX5_fails_98 (by decide) ?_
            refine gl_iload_3 (pc := 99) C dX5_fails_99 ?_
            refine gl_ifeq (pc := 100) 107 C dX5_fails_100 (by decide) (fun h100 => ?_) (fun h100 => absurd h100 (not_not_intro (gl_bz.mpr h79)))
            refine gl_bipush (pc := 107) (-9) C dX5_fails_107 (by decide +kernel) ?_
            refine gl_callVv (pc := 109) (ctX5_puts V.1 _ k 3 (by omega) (by omega) _) C dX5_fails_109 gX5_fails_X5_puts rfl hdX5_puts ⟨rfl, rfl, Nat.le_of_ble_eq_true rfl, Nat.le_of_ble_eq_true rfl⟩ rfl (Nat.le_of_ble_eq_true rfl) rfl rfl rfl ?_
            refine gl_aload_0 (pc := 112) C dX5_fails_112 ?_
            refine gl_iload_2 (pc := 113) C dX5_fails_113 ?_
            refine gl_iconst (pc := 114) (nI 2) C dX5_fails_114 (by decide) ?_
            refine gl_iload_3 (pc := 115) C dX5_fails_115 ?_
            refine gl_ifeq (pc := 116) 123 C dX5_fails_116 (by decide) (fun h116 => ?_) (fun h116 => absurd h116 (not_not_intro (gl_bz.mpr h79)))
            refine gl_iconst (pc := 123) (nI 0) C dX5_fails_123 (by decide) ?_
            refine gl_callVv (pc := 124) (ctX5_puts V.1 _ k 2 (by omega) (by omega) _) C dX5_fails_124 gX5_fails_X5_puts rfl hdX5_puts ⟨rfl, rfl, Nat.le_of_ble_eq_true rfl, Nat.le_of_ble_eq_true rfl⟩ rfl (Nat.le_of_ble_eq_true rfl) rfl rfl rfl ?_
            first | with_reducible refine gl_iincN_2 (pc := 127) gl_i1 C dX5_fails_127 ?_ | refine gl_iinc_2 (pc := 127) C dX5_fails_127 (gl_inc1 _) ?_
            refine gl_goto (pc := 130) 2 C dX5_fails_130 (by decide) ?_
            exact gl_on (ih (trivial)) (gl_le_c (rfl) (gl_le_c (rfl) (gl_le_c (rfl) (gl_le_o (gl_le_n))))) (by rw [oF] at h79 ⊢; rw [sp_lose, if_pos ⟨h53, h19⟩, if_neg (fun q => h79 ⟨⟨h53, h19⟩, q⟩)]; exact fl_rides (q4 (by rw [h53]; decide)))
          · skip
            replace h79 := gl_bn.mp h79
            refine gl_aload_0 (pc := 82) C dX5_fails_82 ?_
            refine gl_getR (pc := 83) C dX5_fails_83 fX5_fails_7 rfl rfl ?_
            refine gl_iconst (pc := 86) (nI 0) C dX5_fails_86 (by decide) ?_
            refine gl_iald (pc := 87) _ C dX5_fails_87 rfl rfl (by omega) ?_
            refine gl_top ((gl_upd_ne (by unfold iK; omega)).trans wk.2.2.2.2.1) ?_
            refine gl_goto (pc := 88) 93 C dX5_fails_88 (by decide) ?_
            refine gl_callVv (pc := 93) (ctX5_puts V.1 _ k 6 (by omega) (by omega) _) C dX5_fails_93 gX5_fails_X5_puts rfl hdX5_puts ⟨rfl, rfl, Nat.le_of_ble_eq_true rfl, Nat.le_of_ble_eq_true rfl⟩ rfl (Nat.le_of_ble_eq_true rfl) rfl rfl rfl ?_
            refine gl_aload_0 (pc := 96) C dX5_fails_96 ?_
            refine gl_iload_2 (pc := 97) C dX5_fails_97 ?_
            refine gl_iconst (pc := 98) (nI 3) C dX5_fails_98 (by decide) ?_
            refine gl_iload_3 (pc := 99) C dX5_fails_99 ?_
            refine gl_ifeq (pc := 100) 107 C dX5_fails_100 (by decide) (fun h100 => absurd h100 (gl_bn.mpr h79)) (fun h100 => ?_)
            refine gl_iload_1 (pc := 103) C dX5_fails_103 ?_
            refine gl_goto (pc := 104) 109 C dX5_fails_104 (by decide) ?_
            refine gl_callVv (pc := 109) (ctX5_puts V.1 _ k 3 (by omega) (by omega) _) C dX5_fails_109 gX5_fails_X5_puts rfl hdX5_puts ⟨rfl, rfl, Nat.le_of_ble_eq_true rfl, Nat.le_of_ble_eq_true rfl⟩ rfl (Nat.le_of_ble_eq_true rfl) rfl rfl rfl ?_
            refine gl_aload_0 (pc := 112) C dX5_fails_112 ?_
            refine gl_iload_2 (pc := 113) C dX5_fails_113 ?_
            refine gl_iconst (pc := 114) (nI 2) C dX5_fails_114 (by decide) ?_
            refine gl_iload_3 (pc := 115) C dX5_fails_115 ?_
            refine gl_ifeq (pc := 116) 123 C dX5_fails_116 (by decide) (fun h116 => absurd h116 (gl_bn.mpr h79)) (fun h116 => ?_)
            refine gl_iconst (pc := 119) (nI 3) C dX5_fails_119 (by decide) ?_
            refine gl_goto (pc := 120) 124 C dX5_fails_120 (by decide) ?_
            refine gl_callVv (pc := 124) (ctX5_puts V.1 _ k 2 (by omega) (by omega) _) C dX5_fails_124 gX5_fails_X5_puts rfl hdX5_puts ⟨rfl, rfl, Nat.le_of_ble_eq_true rfl, Nat.le_of_ble_eq_true rfl⟩ rfl (Nat.le_of_ble_eq_true rfl) rfl rfl rfl ?_
            first | with_reducible refine gl_iincN_2 (pc := 127) gl_i1 C dX5_fails_127 ?_ | refine gl_iinc_2 (pc := 127) C dX5_fails_127 (gl_inc1 _) ?_
            refine gl_goto (pc := 130) 2 C dX5_fails_130 (by decide) ?_
            exact gl_on (ih (trivial)) (gl_le_c (rfl) (gl_le_c (rfl) (gl_le_c (rfl) (gl_le_o (gl_le_n))))) (by rw [oF] at h79 ⊢; rw [sp_lose, if_pos h79.1, if_pos h79.2]; exact fl_there h19)
