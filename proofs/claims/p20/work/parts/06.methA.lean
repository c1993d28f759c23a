theorem fX0_has_36 : gl_fl wsX0_has RX0 36 0 0 := ⟨RX0, TX0, 9, RX0, rfl, by decide, by decide +kernel, by decide +kernel, rfl⟩
theorem fX0_rides_18 : gl_fl wsX0_rides RX0 18 0 3 := ⟨RX0, TX0, 9, RX0, rfl, by decide, by decide +kernel, by decide +kernel, rfl⟩
theorem fX0_rides_21 : gl_fl wsX0_rides RX0 21 0 4 := ⟨RX0, TX0, 9, RX0, rfl, by decide, by decide +kernel, by decide +kernel, rfl⟩
theorem fX0_waitsFor_18 : gl_fl wsX0_waitsFor RX0 18 0 3 := ⟨RX0, TX0, 9, RX0, rfl, by decide, by decide +kernel, by decide +kernel, rfl⟩
theorem fX0_waitsFor_21 : gl_fl wsX0_waitsFor RX0 21 0 4 := ⟨RX0, TX0, 9, RX0, rfl, by decide, by decide +kernel, by decide +kernel, rfl⟩
theorem fX0_numberIn_18 : gl_fl wsX0_numberIn RX0 18 0 3 := ⟨RX0, TX0, 9, RX0, rfl, by decide, by decide +kernel, by decide +kernel, rfl⟩
theorem fX0_numberIn_36 : gl_fl wsX0_numberIn RX0 36 0 0 := ⟨RX0, TX0, 9, RX0, rfl, by decide, by decide +kernel, by decide +kernel, rfl⟩
theorem fX0_numberOf_18 : gl_fl wsX0_numberOf RX0 18 0 3 := ⟨RX0, TX0, 9, RX0, rfl, by decide, by decide +kernel, by decide +kernel, rfl⟩
theorem fX0_numberOf_21 : gl_fl wsX0_numberOf RX0 21 0 4 := ⟨RX0, TX0, 9, RX0, rfl, by decide, by decide +kernel, by decide +kernel, rfl⟩
theorem fX0_numberOf_36 : gl_fl wsX0_numberOf RX0 36 0 0 := ⟨RX0, TX0, 9, RX0, rfl, by decide, by decide +kernel, by decide +kernel, rfl⟩
theorem fX0_stopsOf_9 : gl_fl wsX0_stopsOf RX0 9 0 1 := ⟨RX0, TX0, 9, RX0, rfl, by decide, by decide +kernel, by decide +kernel, rfl⟩
theorem fX0_stopsOf_15 : gl_fl wsX0_stopsOf RX0 15 0 2 := ⟨RX0, TX0, 9, RX0, rfl, by decide, by decide +kernel, by decide +kernel, rfl⟩
theorem fX0_stopsOf_36 : gl_fl wsX0_stopsOf RX0 36 0 0 := ⟨RX0, TX0, 9, RX0, rfl, by decide, by decide +kernel, by decide +kernel, rfl⟩
theorem fX0_isInGroup_18 : gl_fl wsX0_isInGroup RX0 18 0 3 := ⟨RX0, TX0, 9, RX0, rfl, by decide, by decide +kernel, by decide +kernel, rfl⟩
theorem fX0_sameGroup_9 : gl_fl wsX0_sameGroup RX0 9 0 1 := ⟨RX0, TX0, 9, RX0, rfl, by decide, by decide +kernel, by decide +kernel, rfl⟩
theorem fX0_sameGroup_15 : gl_fl wsX0_sameGroup RX0 15 0 2 := ⟨RX0, TX0, 9, RX0, rfl, by decide, by decide +kernel, by decide +kernel, rfl⟩
theorem fX0_numberOfGroups_36 : gl_fl wsX0_numberOfGroups RX0 36 0 0 := ⟨RX0, TX0, 9, RX0, rfl, by decide, by decide +kernel, by decide +kernel, rfl⟩
theorem fX0_firstOfGroup_36 : gl_fl wsX0_firstOfGroup RX0 36 0 0 := ⟨RX0, TX0, 9, RX0, rfl, by decide, by decide +kernel, by decide +kernel, rfl⟩
theorem fX0_sizeOfGroup_36 : gl_fl wsX0_sizeOfGroup RX0 36 0 0 := ⟨RX0, TX0, 9, RX0, rfl, by decide, by decide +kernel, by decide +kernel, rfl⟩
theorem fX0_aimOf_9 : gl_fl wsX0_aimOf RX0 9 0 1 := ⟨RX0, TX0, 9, RX0, rfl, by decide, by decide +kernel, by decide +kernel, rfl⟩
theorem fX0_aimOf_15 : gl_fl wsX0_aimOf RX0 15 0 2 := ⟨RX0, TX0, 9, RX0, rfl, by decide, by decide +kernel, by decide +kernel, rfl⟩
theorem fX0_aimOf_36 : gl_fl wsX0_aimOf RX0 36 0 0 := ⟨RX0, TX0, 9, RX0, rfl, by decide, by decide +kernel, by decide +kernel, rfl⟩
theorem fX1_has_30 : gl_fl wsX1_has RX1 30 1 0 := ⟨RX1, TX1, 8, RX1, rfl, by decide, by decide +kernel, by decide +kernel, rfl⟩
theorem fX1_serves_9 : gl_fl wsX1_serves RX1 9 1 2 := ⟨RX1, TX1, 8, RX1, rfl, by decide, by decide +kernel, by decide +kernel, rfl⟩
theorem fX1_serves_15 : gl_fl wsX1_serves RX1 15 1 3 := ⟨RX1, TX1, 8, RX1, rfl, by decide, by decide +kernel, by decide +kernel, rfl⟩
theorem fX1_numberIn_24 : gl_fl wsX1_numberIn RX1 24 1 6 := ⟨RX1, TX1, 8, RX1, rfl, by decide, by decide +kernel, by decide +kernel, rfl⟩
theorem fX1_numberIn_30 : gl_fl wsX1_numberIn RX1 30 1 0 := ⟨RX1, TX1, 8, RX1, rfl, by decide, by decide +kernel, by decide +kernel, rfl⟩
theorem fX1_travelledByAll_27 : gl_fl wsX1_travelledByAll RX1 27 1 7 := ⟨RX1, TX1, 8, RX1, rfl, by decide, by decide +kernel, by decide +kernel, rfl⟩
theorem fX1_travelledByAll_30 : gl_fl wsX1_travelledByAll RX1 30 1 0 := ⟨RX1, TX1, 8, RX1, rfl, by decide, by decide +kernel, by decide +kernel, rfl⟩
theorem fX3_hour_29 : gl_fl wsX3_hour RX3 29 3 0 := ⟨RX3, TX3, 4, RX3, rfl, by decide, by decide +kernel, by decide +kernel, rfl⟩
theorem fX3_isAwake_9 : gl_fl wsX3_isAwake RX3 9 3 1 := ⟨RX3, TX3, 4, RX3, rfl, by decide, by decide +kernel, by decide +kernel, rfl⟩
theorem fX3_canBeGiven_18 : gl_fl wsX3_canBeGiven RX3 18 3 2 := ⟨RX3, TX3, 4, RX3, rfl, by decide, by decide +kernel, by decide +kernel, rfl⟩
theorem fX3_canBeGiven_50 : gl_fl wsX3_canBeGiven RX3 50 1 6 := ⟨RX1, TX1, 8, RX1, rfl, by decide, by decide +kernel, by decide +kernel, rfl⟩
theorem fX3_costOf_18 : gl_fl wsX3_costOf RX3 18 3 2 := ⟨RX3, TX3, 4, RX3, rfl, by decide, by decide +kernel, by decide +kernel, rfl⟩
theorem fX3_costOf_25 : gl_fl wsX3_costOf RX3 25 3 3 := ⟨RX3, TX3, 4, RX3, rfl, by decide, by decide +kernel, by decide +kernel, rfl⟩
theorem fX3_costOf_61 : gl_fl wsX3_costOf RX3 61 1 5 := ⟨RX1, TX1, 8, RX1, rfl, by decide, by decide +kernel, by decide +kernel, rfl⟩
theorem fX3_bestCar_18 : gl_fl wsX3_bestCar RX3 18 3 2 := ⟨RX3, TX3, 4, RX3, rfl, by decide, by decide +kernel, by decide +kernel, rfl⟩
theorem fX3_bestCar_81 : gl_fl wsX3_bestCar RX3 81 1 0 := ⟨RX1, TX1, 8, RX1, rfl, by decide, by decide +kernel, by decide +kernel, rfl⟩
set_option maxRecDepth 100000 in
set_option maxHeartbeats 4000000 in
theorem ctX0_has (F : gl_F) (M : Nat → Int32) (x : Int32) : gl_Ct F LH yX0_has wsX0_has rmX0_has [.ref (gl_r F 9), .int x] M (some (.int (if sp_has x (M 2) then nI 1 else nI 0))) (M) := by
  refine gl_met (cc := cX0_has) (maxL := 2) (ret := some .boolean) [some (.ref (gl_r F 9)), some (.int x)] (plainFor_of_name (by decide)) rfl ok_LH (by simp [Value.category]) (Nat.le_of_ble_eq_true rfl) rfl (fun V hV C => ?_)
  subst hV
  refine gl_iload_1 (pc := 0) C dX0_has_0 ?_
  refine gl_iflt (pc := 1) 16 C dX0_has_1 (by decide) (fun h1 => ?_) (fun h1 => ?_)
  · skip
    refine gl_iconst (pc := 16) (nI 0) C dX0_has_16 (by decide) ?_
    exact gl_zret (pc := 17) C dX0_has_17 (by rfl) (by simp [*]) (rfl)
  · skip
    refine gl_iload_1 (pc := 4) C dX0_has_4 ?_
    refine gl_aload_0 (pc := 5) C dX0_has_5 ?_
    refine gl_getI (pc := 6) C dX0_has_6 fX0_has_36 rfl rfl ?_
    refine gl_icmp_ge (pc := 9) 16 C dX0_has_9 (by decide) (fun h9 => ?_) (fun h9 => ?_)
    · skip
      refine gl_iconst (pc := 16) (nI 0) C dX0_has_16 (by decide) ?_
      exact gl_zret (pc := 17) C dX0_has_17 (by rfl) (by simp [*]) (rfl)
    · skip
      refine gl_iconst (pc := 12) (nI 1) C dX0_has_12 (by decide) ?_
      refine gl_goto (pc := 13) 17 C dX0_has_13 (by decide) ?_
      exact gl_zret (pc := 17) C dX0_has_17 (by rfl) (by simp [*]) (rfl)
set_option maxRecDepth 100000 in
set_option maxHeartbeats 4000000 in
theorem ctX0_rides (F : gl_F) (M : Nat → Int32) (k : Nat) (hk : k < 40) (c : Int32) : gl_Ct F LH yX0_rides wsX0_rides rmX0_rides [.ref (gl_r F 9), .int (nI k), .int c] M (some (.int (if sp_rd M k c then nI 1 else nI 0))) (M) := by
  refine gl_met (cc := cX0_rides) (maxL := 3) (ret := some .boolean) [some (.ref (gl_r F 9)), some (.int (nI k)), some (.int c)] (plainFor_of_name (by decide)) rfl ok_LH (by simp [Value.category]) (Nat.le_of_ble_eq_true rfl) rfl (fun V hV C => ?_)
  subst hV
  refine gl_aload_0 (pc := 0) C dX0_rides_0 ?_
  refine gl_getR (pc := 1) C dX0_rides_1 fX0_rides_18 rfl rfl ?_
  refine gl_iload_1 (pc := 4) C dX0_rides_4 ?_
  refine gl_iald (pc := 5) _ C dX0_rides_5 rfl rfl (by omega) ?_
  refine gl_iconst (pc := 6) (nI 2) C dX0_rides_6 (by decide) ?_
  refine gl_icmp_ne (pc := 7) 24 C dX0_rides_7 (by decide) (fun h7 => ?_) (fun h7 => ?_)
  · skip
    refine gl_iconst (pc := 24) (nI 0) C dX0_rides_24 (by decide) ?_
    exact gl_zret (pc := 25) C dX0_rides_25 (by rfl) (by simp [*]) (rfl)
  · skip
    refine gl_aload_0 (pc := 10) C dX0_rides_10 ?_
    refine gl_getR (pc := 11) C dX0_rides_11 fX0_rides_21 rfl rfl ?_
    refine gl_iload_1 (pc := 14) C dX0_rides_14 ?_
    refine gl_iald (pc := 15) _ C dX0_rides_15 rfl rfl (by omega) ?_
    refine gl_iload_2 (pc := 16) C dX0_rides_16 ?_
    refine gl_icmp_ne (pc := 17) 24 C dX0_rides_17 (by decide) (fun h17 => ?_) (fun h17 => ?_)
    · skip
      refine gl_iconst (pc := 24) (nI 0) C dX0_rides_24 (by decide) ?_
      exact gl_zret (pc := 25) C dX0_rides_25 (by rfl) (by simp [*]) (rfl)
    · skip
      refine gl_iconst (pc := 20) (nI 1) C dX0_rides_20 (by decide) ?_
      refine gl_goto (pc := 21) 25 C dX0_rides_21 (by decide) ?_
      exact gl_zret (pc := 25) C dX0_rides_25 (by rfl) (by simp [*]) (rfl)
set_option maxRecDepth 100000 in
set_option maxHeartbeats 4000000 in
theorem ctX0_waitsFor (F : gl_F) (M : Nat → Int32) (k : Nat) (hk : k < 40) (c : Int32) : gl_Ct F LH yX0_waitsFor wsX0_waitsFor rmX0_waitsFor [.ref (gl_r F 9), .int (nI k), .int c] M (some (.int (if sp_wt M k c then nI 1 else nI 0))) (M) := by
  refine gl_met (cc := cX0_waitsFor) (maxL := 3) (ret := some .boolean) [some (.ref (gl_r F 9)), some (.int (nI k)), some (.int c)] (plainFor_of_name (by decide)) rfl ok_LH (by simp [Value.category]) (Nat.le_of_ble_eq_true rfl) rfl (fun V hV C => ?_)
  subst hV
  refine gl_aload_0 (pc := 0) C dX0_waitsFor_0 ?_
  refine gl_getR (pc := 1) C dX0_waitsFor_1 fX0_waitsFor_18 rfl rfl ?_
  refine gl_iload_1 (pc := 4) C dX0_waitsFor_4 ?_
  refine gl_iald (pc := 5) _ C dX0_waitsFor_5 rfl rfl (by omega) ?_
  refine gl_iconst (pc := 6) (nI 1) C dX0_waitsFor_6 (by decide) ?_
  refine gl_icmp_ne (pc := 7) 24 C dX0_waitsFor_7 (by decide) (fun h7 => ?_) (fun h7 => ?_)
  · skip
    refine gl_iconst (pc := 24) (nI 0) C dX0_waitsFor_24 (by decide) ?_
    exact gl_zret (pc := 25) C dX0_waitsFor_25 (by rfl) (by simp [*]) (rfl)
  · skip
    refine gl_aload_0 (pc := 10) C dX0_waitsFor_10 ?_
    refine gl_getR (pc := 11) C dX0_waitsFor_11 fX0_waitsFor_21 rfl rfl ?_
    refine gl_iload_1 (pc := 14) C dX0_waitsFor_14 ?_
    refine gl_iald (pc := 15) _ C dX0_waitsFor_15 rfl rfl (by omega) ?_
    refine gl_iload_2 (pc := 16) C dX0_waitsFor_16 ?_
    refine gl_icmp_ne (pc := 17) 24 C dX0_waitsFor_17 (by decide) (fun h17 => ?_) (fun h17 => ?_)
    · skip
      refine gl_iconst (pc := 24) (nI 0) C dX0_waitsFor_24 (by decide) ?_
      exact gl_zret (pc := 25) C dX0_waitsFor_25 (by rfl) (by simp [*]) (rfl)
    · skip
      refine gl_iconst (pc := 20) (nI 1) C dX0_waitsFor_20 (by decide) ?_
      refine gl_goto (pc := 21) 25 C dX0_waitsFor_21 (by decide) ?_
      exact gl_zret (pc := 25) C dX0_waitsFor_25 (by rfl) (by simp [*]) (rfl)
set_option maxRecDepth 100000 in
set_option maxHeartbeats 4000000 in
theorem ctX0_numberIn (F : gl_F) {n : Nat} (hn40 : n ≤ 40) {M : Nat → Int32} (hn : M 2 = nI n) (is : Int32) : gl_Ct F LH yX0_numberIn wsX0_numberIn rmX0_numberIn [.ref (gl_r F 9), .int is] M (some (.int (sp_in M is n))) (M) := by
  refine gl_met (cc := cX0_numberIn) (maxL := 4) (ret := some .int) [some (.ref (gl_r F 9)), some (.int is), none, none] (plainFor_of_name (by decide)) rfl ok_LH (by simp [Value.category]) (Nat.le_of_ble_eq_true rfl) rfl (fun V hV C => ?_)
  subst hV
  refine gl_iconst (pc := 0) (nI 0) C dX0_numberIn_0 (by decide) ?_
  refine gl_istore_2 (pc := 1) C dX0_numberIn_1 ?_
  refine gl_iconst (pc := 2) (nI 0) C dX0_numberIn_2 (by decide) ?_
  refine gl_istore_3 (pc := 3) C dX0_numberIn_3 ?_
  refine gl_loop (pc := 4) (n := n) (fun k => [some (.ref (gl_r V.1 9)), some (.int is), some (.int (sp_in M is k)), some (.int (nI k))]) (fun k => M) (fun k => True) 0 (Nat.zero_le _) (trivial) (gl_le_c (rfl) (gl_le_c (rfl) (gl_le_c (rfl) (gl_le_c (rfl) (gl_le_n))))) (rfl) (fun hI => ?_) (fun k hk hI ih => ?_)
  · skip
    refine gl_iload_3 (pc := 4) C dX0_numberIn_4 ?_
    refine gl_aload_0 (pc := 5) C dX0_numberIn_5 ?_
    refine gl_getI (pc := 6) C dX0_numberIn_6 fX0_numberIn_36 rfl rfl ?_
    refine gl_top hn ?_
    refine gl_icmp_ge (pc := 9) 31 C dX0_numberIn_9 (by decide) (fun h9 => ?_) (fun h9 => absurd h9 (gl_xge))
    refine gl_iload_2 (pc := 31) C dX0_numberIn_31 ?_
    exact gl_iret (pc := 32) C dX0_numberIn_32 (rfl) (rfl)
  · skip
    refine gl_iload_3 (pc := 4) C dX0_numberIn_4 ?_
    refine gl_aload_0 (pc := 5) C dX0_numberIn_5 ?_
    refine gl_getI (pc := 6) C dX0_numberIn_6 fX0_numberIn_36 rfl rfl ?_
    refine gl_top hn ?_
    refine gl_icmp_ge (pc := 9) 31 C dX0_numberIn_9 (by decide) (fun h9 => absurd h9 (nI_ge hk (by omega))) (fun h9 => ?_)
    refine gl_aload_0 (pc := 12) C dX0_numberIn_12 ?_
    refine gl_getR (pc := 13) C dX0_numberIn_13 fX0_numberIn_18 rfl rfl ?_
    refine gl_iload_3 (pc := 16) C dX0_numberIn_16 ?_
    refine gl_iald (pc := 17) _ C dX0_numberIn_17 rfl rfl (by omega) ?_
    refine gl_iload_1 (pc := 18) C dX0_numberIn_18 ?_
    refine gl_icmp_ne (pc := 19) 25 C dX0_numberIn_19 (by decide) (fun h19 => ?_) (fun h19 => ?_)
    · skip
      first | with_reducible refine gl_iincN_3 (pc := 25) gl_i1 C dX0_numberIn_25 ?_ | refine gl_iinc_3 (pc := 25) C dX0_numberIn_25 (gl_inc1 _) ?_
      refine gl_goto (pc := 28) 4 C dX0_numberIn_28 (by decide) ?_
      exact gl_on (ih (trivial)) (gl_le_c (rfl) (gl_le_c (rfl) (gl_le_c (congrArg Value.int (by simp [sp_in, *])) (gl_le_c (rfl) (gl_le_n))))) (rfl)
    · skip
      first | with_reducible refine gl_iincN_2 (pc := 22) gl_i1 C dX0_numberIn_22 ?_ | refine gl_iinc_2 (pc := 22) C dX0_numberIn_22 (gl_inc1 _) ?_
      first | with_reducible refine gl_iincN_3 (pc := 25) gl_i1 C dX0_numberIn_25 ?_ | refine gl_iinc_3 (pc := 25) C dX0_numberIn_25 (gl_inc1 _) ?_
      refine gl_goto (pc := 28) 4 C dX0_numberIn_28 (by decide) ?_
      exact gl_on (ih (trivial)) (gl_le_c (rfl) (gl_le_c (rfl) (gl_le_c (congrArg Value.int (by simp [sp_in, *])) (gl_le_c (rfl) (gl_le_n))))) (rfl)
set_option maxRecDepth 100000 in
set_option maxHeartbeats 4000000 in
theorem ctX0_numberOf (F : gl_F) {n : Nat} (hn40 : n ≤ 40) {M : Nat → Int32} (hn : M 2 = nI n) (c is : Int32) : gl_Ct F LH yX0_numberOf wsX0_numberOf rmX0_numberOf [.ref (gl_r F 9), .int c, .int is] M (some (.int (sp_of M c is n))) (M) := by
  refine gl_met (cc := cX0_numberOf) (maxL := 5) (ret := some .int) [some (.ref (gl_r F 9)), some (.int c), some (.int is), none, none] (plainFor_of_name (by decide)) rfl ok_LH (by simp [Value.category]) (Nat.le_of_ble_eq_true rfl) rfl (fun V hV C => ?_)
  subst hV
  refine gl_iconst (pc := 0) (nI 0) C dX0_numberOf_0 (by decide) ?_
  refine gl_istore_3 (pc := 1) C dX0_numberOf_1 ?_
  refine gl_iconst (pc := 2) (nI 0) C dX0_numberOf_2 (by decide) ?_
  refine gl_istore_4 (pc := 3) C dX0_numberOf_3 ?_
  refine gl_loop (pc := 5) (n := n) (fun k => [some (.ref (gl_r V.1 9)), some (.int c), some (.int is), some (.int (sp_of M c is k)), some (.int (nI k))]) (fun k => M) (fun k => True) 0 (Nat.zero_le _) (trivial) (gl_le_c (rfl) (gl_le_c (rfl) (gl_le_c (rfl) (gl_le_c (rfl) (gl_le_c (rfl) (gl_le_n)))))) (rfl) (fun hI => ?_) (fun k hk hI ih => ?_)
  · skip
    refine gl_iload_4 (pc := 5) C dX0_numberOf_5 ?_
    refine gl_aload_0 (pc := 7) C dX0_numberOf_7 ?_
    refine gl_getI (pc := 8) C dX0_numberOf_8 fX0_numberOf_36 rfl rfl ?_
    refine gl_top hn ?_
    refine gl_icmp_ge (pc := 11) 45 C dX0_numberOf_11 (by decide) (fun h11 => ?_) (fun h11 => absurd h11 (gl_xge))
    refine gl_iload_3 (pc := 45) C dX0_numberOf_45 ?_
    exact gl_iret (pc := 46) C dX0_numberOf_46 (rfl) (rfl)
  · skip
    refine gl_iload_4 (pc := 5) C dX0_numberOf_5 ?_
    refine gl_aload_0 (pc := 7) C dX0_numberOf_7 ?_
    refine gl_getI (pc := 8) C dX0_numberOf_8 fX0_numberOf_36 rfl rfl ?_
    refine gl_top hn ?_
    refine gl_icmp_ge (pc := 11) 45 C dX0_numberOf_11 (by decide) (fun h11 => absurd h11 (nI_ge hk (by omega))) (fun h11 => ?_)
    refine gl_aload_0 (pc := 14) C dX0_numberOf_14 ?_
    refine gl_getR (pc := 15) C dX0_numberOf_15 fX0_numberOf_18 rfl rfl ?_
    refine gl_iload_4 (pc := 18) C dX0_numberOf_18 ?_
    refine gl_iald (pc := 20) _ C dX0_numberOf_20 rfl rfl (by omega) ?_
    refine gl_iload_2 (pc := 21) C dX0_numberOf_21 ?_
    refine gl_icmp_ne (pc := 22) 39 C dX0_numberOf_22 (by decide) (fun h22 => ?_) (fun h22 => ?_)
    · skip
      first | with_reducible refine gl_iincN_4 (pc := 39) gl_i1 C dX0_numberOf_39 ?_ | refine gl_iinc_4 (pc := 39) C dX0_numberOf_39 (gl_inc1 _) ?_
      refine gl_goto (pc := 42) 5 C dX0_numberOf_42 (by decide) ?_
      exact gl_on (ih (trivial)) (gl_le_c (rfl) (gl_le_c (rfl) (gl_le_c (rfl) (gl_le_c (congrArg Value.int (by simp [sp_of, *])) (gl_le_c (rfl) (gl_le_n)))))) (rfl)
    · skip
      refine gl_aload_0 (pc := 25) C dX0_numberOf_25 ?_
      refine gl_getR (pc := 26) C dX0_numberOf_26 fX0_numberOf_21 rfl rfl ?_
      refine gl_iload_4 (pc := 29) C dX0_numberOf_29 ?_
      refine gl_iald (pc := 31) _ C dX0_numberOf_31 rfl rfl (by omega) ?_
      refine gl_iload_1 (pc := 32) C dX0_numberOf_32 ?_
      refine gl_icmp_ne (pc := 33) 39 C dX0_numberOf_33 (by decide) (fun h33 => ?_) (fun h33 => ?_)
      · skip
        first | with_reducible refine gl_iincN_4 (pc := 39) gl_i1 C dX0_numberOf_39 ?_ | refine gl_iinc_4 (pc := 39) C dX0_numberOf_39 (gl_inc1 _) ?_
        refine gl_goto (pc := 42) 5 C dX0_numberOf_42 (by decide) ?_
        exact gl_on (ih (trivial)) (gl_le_c (rfl) (gl_le_c (rfl) (gl_le_c (rfl) (gl_le_c (congrArg Value.int (by simp [sp_of, *])) (gl_le_c (rfl) (gl_le_n)))))) (rfl)
      · skip
        first | with_reducible refine gl_iincN_3 (pc := 36) gl_i1 C dX0_numberOf_36 ?_ | refine gl_iinc_3 (pc := 36) C dX0_numberOf_36 (gl_inc1 _) ?_
        first | with_reducible refine gl_iincN_4 (pc := 39) gl_i1 C dX0_numberOf_39 ?_ | refine gl_iinc_4 (pc := 39) C dX0_numberOf_39 (gl_inc1 _) ?_
        refine gl_goto (pc := 42) 5 C dX0_numberOf_42 (by decide) ?_
        exact gl_on (ih (trivial)) (gl_le_c (rfl) (gl_le_c (rfl) (gl_le_c (rfl) (gl_le_c (congrArg Value.int (by simp [sp_of, *])) (gl_le_c (rfl) (gl_le_n)))))) (rfl)
set_option maxRecDepth 100000 in
set_option maxHeartbeats 4000000 in
theorem ctX0_numberWith (F : gl_F) {n : Nat} (hn40 : n ≤ 40) {M : Nat → Int32} (hn : M 2 = nI n) (c : Int32) : gl_Ct F LH yX0_numberWith wsX0_numberWith rmX0_numberWith [.ref (gl_r F 9), .int c] M (some (.int (sp_with M c n))) (M) := by
  refine gl_met (cc := cX0_numberWith) (maxL := 2) (ret := some .int) [some (.ref (gl_r F 9)), some (.int c)] (plainFor_of_name (by decide)) rfl ok_LH (by simp [Value.category]) (Nat.le_of_ble_eq_true rfl) rfl (fun V hV C => ?_)
  subst hV
  refine gl_aload_0 (pc := 0) C dX0_numberWith_0 ?_
  refine gl_iload_1 (pc := 1) C dX0_numberWith_1 ?_
  refine gl_iconst (pc := 2) (nI 1) C dX0_numberWith_2 (by decide) ?_
  refine gl_callVi (pc := 3) (ctX0_numberOf V.1 hn40 hn c (nI 1)) C dX0_numberWith_3 gX0_numberWith_X0_numberOf rfl hdX0_numberOf ⟨rfl, rfl, Nat.le_of_ble_eq_true rfl, Nat.le_of_ble_eq_true rfl⟩ rfl (Nat.le_of_ble_eq_true rfl) rfl rfl rfl ?_
  refine gl_aload_0 (pc := 6) C dX0_numberWith_6 ?_
  refine gl_iload_1 (pc := 7) C dX0_numberWith_7 ?_
  refine gl_iconst (pc := 8) (nI 2) C dX0_numberWith_8 (by decide) ?_
  refine gl_callVi (pc := 9) (ctX0_numberOf V.1 hn40 hn c (nI 2)) C dX0_numberWith_9 gX0_numberWith_X0_numberOf rfl hdX0_numberOf ⟨rfl, rfl, Nat.le_of_ble_eq_true rfl, Nat.le_of_ble_eq_true rfl⟩ rfl (Nat.le_of_ble_eq_true rfl) rfl rfl rfl ?_
  first | with_reducible refine gl_iaddN (pc := 12) C dX0_numberWith_12 ?_ | refine gl_iadd (pc := 12) C dX0_numberWith_12 ?_
  exact gl_iret (pc := 13) C dX0_numberWith_13 (rfl) (rfl)
set_option maxRecDepth 100000 in
set_option maxHeartbeats 4000000 in
theorem ctX0_stopsOf (F : gl_F) {n : Nat} (hn40 : n ≤ 40) {M : Nat → Int32} (hn : M 2 = nI n) (c : Int32) : gl_Ct F LH yX0_stopsOf wsX0_stopsOf rmX0_stopsOf [.ref (gl_r F 9), .int c] M (some (.int (sp_stops M c n))) (M) := by
  refine gl_met (cc := cX0_stopsOf) (maxL := 4) (ret := some .int) [some (.ref (gl_r F 9)), some (.int c), none, none] (plainFor_of_name (by decide)) rfl ok_LH (by simp [Value.category]) (Nat.le_of_ble_eq_true rfl) rfl (fun V hV C => ?_)
  subst hV
  refine gl_iconst (pc := 0) (nI 0) C dX0_stopsOf_0 (by decide) ?_
  refine gl_istore_2 (pc := 1) C dX0_stopsOf_1 ?_
  refine gl_iconst (pc := 2) (nI 0) C dX0_stopsOf_2 (by decide) ?_
  refine gl_istore_3 (pc := 3) C dX0_stopsOf_3 ?_
  refine gl_loop (pc := 4) (n := n) (fun k => [some (.ref (gl_r V.1 9)), some (.int c), some (.int (sp_stops M c k)), some (.int (nI k))]) (fun k => M) (fun k => True) 0 (Nat.zero_le _) (trivial) (gl_le_c (rfl) (gl_le_c (rfl) (gl_le_c (rfl) (gl_le_c (rfl) (gl_le_n))))) (rfl) (fun hI => ?_) (fun k hk hI ih => ?_)
  · skip
    refine gl_iload_3 (pc := 4) C dX0_stopsOf_4 ?_
    refine gl_aload_0 (pc := 5) C dX0_stopsOf_5 ?_
    refine gl_getI (pc := 6) C dX0_stopsOf_6 fX0_stopsOf_36 rfl rfl ?_
    refine gl_top hn ?_
    refine gl_icmp_ge (pc := 9) 70 C dX0_stopsOf_9 (by decide) (fun h9 => ?_) (fun h9 => absurd h9 (gl_xge))
    refine gl_iload_2 (pc := 70) C dX0_stopsOf_70 ?_
    exact gl_iret (pc := 71) C dX0_stopsOf_71 (rfl) (rfl)
  · skip
    refine gl_iload_3 (pc := 4) C dX0_stopsOf_4 ?_
    refine gl_aload_0 (pc := 5) C dX0_stopsOf_5 ?_
    refine gl_getI (pc := 6) C dX0_stopsOf_6 fX0_stopsOf_36 rfl rfl ?_
    refine gl_top hn ?_
    refine gl_icmp_ge (pc := 9) 70 C dX0_stopsOf_9 (by decide) (fun h9 => absurd h9 (nI_ge hk (by omega))) (fun h9 => ?_)
    refine gl_aload_0 (pc := 12) C dX0_stopsOf_12 ?_
    refine gl_iload_3 (pc := 13) C dX0_stopsOf_13 ?_
    refine gl_iload_1 (pc := 14) C dX0_stopsOf_14 ?_
    refine gl_callVi (pc := 15) (ctX0_waitsFor V.1 M k (by omega) c) C dX0_stopsOf_15 gX0_stopsOf_X0_waitsFor rfl hdX0_waitsFor ⟨rfl, rfl, Nat.le_of_ble_eq_true rfl, Nat.le_of_ble_eq_true rfl⟩ rfl (Nat.le_of_ble_eq_true rfl) rfl rfl rfl ?_
    refine gl_ifeq (pc := 18) 44 C dX0_stopsOf_18 (by decide) (fun h18 => ?_) (fun h18 => ?_)
    · skip
      replace h18 := gl_bz.mp h18
      refine gl_aload_0 (pc := 44) C dX0_stopsOf_44 ?_
      refine gl_iload_3 (pc := 45) C dX0_stopsOf_45 ?_
      refine gl_iload_1 (pc := 46) C dX0_stopsOf_46 ?_
      refine gl_callVi (pc := 47) (ctX0_rides V.1 M k (by omega) c) C dX0_stopsOf_47 gX0_stopsOf_X0_rides rfl hdX0_rides ⟨rfl, rfl, Nat.le_of_ble_eq_true rfl, Nat.le_of_ble_eq_true rfl⟩ rfl (Nat.le_of_ble_eq_true rfl) rfl rfl rfl ?_
      refine gl_ifeq (pc := 50) 64 C dX0_stopsOf_50 (by decide) (fun h50 => ?_) (fun h50 => ?_)
      · skip
        replace h50 := gl_bz.mp h50
        first | with_reducible refine gl_iincN_3 (pc := 64) gl_i1 C dX0_stopsOf_64 ?_ | refine gl_iinc_3 (pc := 64) C dX0_stopsOf_64 (gl_inc1 _) ?_
        refine gl_goto (pc := 67) 4 C dX0_stopsOf_67 (by decide) ?_
        exact gl_on (ih (trivial)) (gl_le_c (rfl) (gl_le_c (rfl) (gl_le_c (congrArg Value.int (by simp only [sp_stops, if_pos, if_neg, *]; try simp [*])) (gl_le_c (rfl) (gl_le_n))))) (rfl)
      · skip
        replace h50 := gl_bn.mp h50
        refine gl_iload_2 (pc := 53) C dX0_stopsOf_53 ?_
        refine gl_iconst (pc := 54) (nI 1) C dX0_stopsOf_54 (by decide) ?_
        refine gl_aload_0 (pc := 55) C dX0_stopsOf_55 ?_
        refine gl_getR (pc := 56) C dX0_stopsOf_56 fX0_stopsOf_15 rfl rfl ?_
        refine gl_iload_3 (pc := 59) C dX0_stopsOf_59 ?_
        refine gl_iald (pc := 60) _ C dX0_stopsOf_60 rfl rfl (by omega) ?_
        refine gl_ishl (pc := 61) C dX0_stopsOf_61 ?_
        refine gl_ior (pc := 62) C dX0_stopsOf_62 ?_
        refine gl_istore_2 (pc := 63) C dX0_stopsOf_63 ?_
        first | with_reducible refine gl_iincN_3 (pc := 64) gl_i1 C dX0_stopsOf_64 ?_ | refine gl_iinc_3 (pc := 64) C dX0_stopsOf_64 (gl_inc1 _) ?_
        refine gl_goto (pc := 67) 4 C dX0_stopsOf_67 (by decide) ?_
        exact gl_on (ih (trivial)) (gl_le_c (rfl) (gl_le_c (rfl) (gl_le_c (congrArg Value.int (by simp only [sp_stops, if_pos, if_neg, *]; try simp [*])) (gl_le_c (rfl) (gl_le_n))))) (rfl)
    · skip
      replace h18 := gl_bn.mp h18
      refine gl_iload_2 (pc := 21) C dX0_stopsOf_21 ?_
      refine gl_iconst (pc := 22) (nI 1) C dX0_stopsOf_22 (by decide) ?_
      refine gl_aload_0 (pc := 23) C dX0_stopsOf_23 ?_
      refine gl_getR (pc := 24) C dX0_stopsOf_24 fX0_stopsOf_9 rfl rfl ?_
      refine gl_iload_3 (pc := 27) C dX0_stopsOf_27 ?_
      refine gl_iald (pc := 28) _ C dX0_stopsOf_28 rfl rfl (by omega) ?_
      refine gl_ishl (pc := 29) C dX0_stopsOf_29 ?_
      refine gl_iconst (pc := 30) (nI 1) C dX0_stopsOf_30 (by decide) ?_
      refine gl_aload_0 (pc := 31) C dX0_stopsOf_31 ?_
      refine gl_getR (pc := 32) C dX0_stopsOf_32 fX0_stopsOf_15 rfl rfl ?_
      refine gl_iload_3 (pc := 35) C dX0_stopsOf_35 ?_
      refine gl_iald (pc := 36) _ C dX0_stopsOf_36 rfl rfl (by omega) ?_
      refine gl_ishl (pc := 37) C dX0_stopsOf_37 ?_
      refine gl_ior (pc := 38) C dX0_stopsOf_38 ?_
      refine gl_ior (pc := 39) C dX0_stopsOf_39 ?_
      refine gl_istore_2 (pc := 40) C dX0_stopsOf_40 ?_
      refine gl_goto (pc := 41) 64 C dX0_stopsOf_41 (by decide) ?_
      first | with_reducible refine gl_iincN_3 (pc := 64) gl_i1 C dX0_stopsOf_64 ?_ | refine gl_iinc_3 (pc := 64) C dX0_stopsOf_64 (gl_inc1 _) ?_
      refine gl_goto (pc := 67) 4 C dX0_stopsOf_67 (by decide) ?_
      exact gl_on (ih (trivial)) (gl_le_c (rfl) (gl_le_c (rfl) (gl_le_c (congrArg Value.int (by simp only [sp_stops, if_pos, if_neg, *]; try simp [*])) (gl_le_c (rfl) (gl_le_n))))) (rfl)
set_option maxRecDepth 100000 in
set_option maxHeartbeats 4000000 in
theorem ctX0_isNearer (F : gl_F) (M : Nat → Int32) {a b fl : Int32} (ha : sp_fl a) (hb : sp_fl b) (hf : sp_fl fl) : gl_Ct F LH yX0_isNearer wsX0_isNearer rmX0_isNearer [.int a, .int b, .int fl] M (some (.int (if sp_near a b fl then nI 1 else nI 0))) (M) := by
  refine gl_met (cc := cX0_isNearer) (maxL := 5) (ret := some .boolean) [some (.int a), some (.int b), some (.int fl), none, none] (plainFor_of_name (by decide)) rfl ok_LH (by simp [Value.category]) (Nat.le_of_ble_eq_true rfl) rfl (fun V hV C => ?_)
  subst hV
  refine gl_iload_0 (pc := 0) C dX0_isNearer_0 ?_
  refine gl_iload_2 (pc := 1) C dX0_isNearer_1 ?_
  refine gl_isub (pc := 2) C dX0_isNearer_2 ?_
  refine gl_abs (pc := 3) C dX0_isNearer_3 (by decide +kernel) (by decide +kernel) (by decide +kernel) (by decide +kernel) ⟨Nat.le_of_ble_eq_true rfl, Nat.le_of_ble_eq_true rfl⟩ ?_
  refine gl_top (sp_far_abs ha hf) ?_
  refine gl_istore_3 (pc := 6) C dX0_isNearer_6 ?_
  refine gl_iload_1 (pc := 7) C dX0_isNearer_7 ?_
  refine gl_iload_2 (pc := 8) C dX0_isNearer_8 ?_
  refine gl_isub (pc := 9) C dX0_isNearer_9 ?_
  refine gl_abs (pc := 10) C dX0_isNearer_10 (by decide +kernel) (by decide +kernel) (by decide +kernel) (by decide +kernel) ⟨Nat.le_of_ble_eq_true rfl, Nat.le_of_ble_eq_true rfl⟩ ?_
  refine gl_top (sp_far_abs hb hf) ?_
  refine gl_istore_4 (pc := 13) C dX0_isNearer_13 ?_
  refine gl_iload_3 (pc := 15) C dX0_isNearer_15 ?_
  refine gl_iload_4 (pc := 16) C dX0_isNearer_16 ?_
  refine gl_icmp_lt (pc := 18) 32 C dX0_isNearer_18 (by decide) (fun h18 => ?_) (fun h18 => ?_)
  · skip
    refine gl_iconst (pc := 32) (nI 1) C dX0_isNearer_32 (by decide) ?_
    refine gl_goto (pc := 33) 37 C dX0_isNearer_33 (by decide) ?_
    exact gl_zret (pc := 37) C dX0_isNearer_37 (by rfl) (by simp [sp_near, *]) (rfl)
  · skip
    refine gl_iload_3 (pc := 21) C dX0_isNearer_21 ?_
    refine gl_iload_4 (pc := 22) C dX0_isNearer_22 ?_
    refine gl_icmp_ne (pc := 24) 36 C dX0_isNearer_24 (by decide) (fun h24 => ?_) (fun h24 => ?_)
    · skip
      refine gl_iconst (pc := 36) (nI 0) C dX0_isNearer_36 (by decide) ?_
      exact gl_zret (pc := 37) C dX0_isNearer_37 (by rfl) (by simp [sp_near, *]) (rfl)
    · skip
      refine gl_iload_0 (pc := 27) C dX0_isNearer_27 ?_
      refine gl_iload_1 (pc := 28) C dX0_isNearer_28 ?_
      refine gl_icmp_ge (pc := 29) 36 C dX0_isNearer_29 (by decide) (fun h29 => ?_) (fun h29 => ?_)
      · skip
        replace h29 := Int32.not_lt.mpr h29
        refine gl_iconst (pc := 36) (nI 0) C dX0_isNearer_36 (by decide) ?_
        exact gl_zret (pc := 37) C dX0_isNearer_37 (by rfl) (by simp [sp_near, *]) (rfl)
      · skip
        replace h29 := Int32.not_le.mp h29
        refine gl_iconst (pc := 32) (nI 1) C dX0_isNearer_32 (by decide) ?_
        refine gl_goto (pc := 33) 37 C dX0_isNearer_33 (by decide) ?_
        exact gl_zret (pc := 37) C dX0_isNearer_37 (by rfl) (by simp [sp_near, *]) (rfl)
set_option maxRecDepth 100000 in
set_option maxHeartbeats 4000000 in
theorem ctX0_isInGroup (F : gl_F) (M : Nat → Int32) (k : Nat) (hk : k < 40) : gl_Ct F LH yX0_isInGroup wsX0_isInGroup rmX0_isInGroup [.ref (gl_r F 9), .int (nI k)] M (some (.int (if sp_open M k then nI 1 else nI 0))) (M) := by
  refine gl_met (cc := cX0_isInGroup) (maxL := 2) (ret := some .boolean) [some (.ref (gl_r F 9)), some (.int (nI k))] (plainFor_of_name (by decide)) rfl ok_LH (by simp [Value.category]) (Nat.le_of_ble_eq_true rfl) rfl (fun V hV C => ?_)
  subst hV
  refine gl_aload_0 (pc := 0) C dX0_isInGroup_0 ?_
  refine gl_getR (pc := 1) C dX0_isInGroup_1 fX0_isInGroup_18 rfl rfl ?_
  refine gl_iload_1 (pc := 4) C dX0_isInGroup_4 ?_
  refine gl_iald (pc := 5) _ C dX0_isInGroup_5 rfl rfl (by omega) ?_
  refine gl_ifeq (pc := 6) 19 C dX0_isInGroup_6 (by decide) (fun h6 => ?_) (fun h6 => ?_)
  · skip
    refine gl_iconst (pc := 19) (nI 1) C dX0_isInGroup_19 (by decide) ?_
    refine gl_goto (pc := 20) 24 C dX0_isInGroup_20 (by decide) ?_
    exact gl_zret (pc := 24) C dX0_isInGroup_24 (by rfl) (by simp [sp_open, *]) (rfl)
  · skip
    refine gl_aload_0 (pc := 9) C dX0_isInGroup_9 ?_
    refine gl_getR (pc := 10) C dX0_isInGroup_10 fX0_isInGroup_18 rfl rfl ?_
    refine gl_iload_1 (pc := 13) C dX0_isInGroup_13 ?_
    refine gl_iald (pc := 14) _ C dX0_isInGroup_14 rfl rfl (by omega) ?_
    refine gl_iconst (pc := 15) (nI 1) C dX0_isInGroup_15 (by decide) ?_
    refine gl_icmp_ne (pc := 16) 23 C dX0_isInGroup_16 (by decide) (fun h16 => ?_) (fun h16 => ?_)
    · skip
      refine gl_iconst (pc := 23) (nI 0) C dX0_isInGroup_23 (by decide) ?_
      exact gl_zret (pc := 24) C dX0_isInGroup_24 (by rfl) (by simp [sp_open, *]) (rfl)
    · skip
      refine gl_iconst (pc := 19) (nI 1) C dX0_isInGroup_19 (by decide) ?_
      refine gl_goto (pc := 20) 24 C dX0_isInGroup_20 (by decide) ?_
      exact gl_zret (pc := 24) C dX0_isInGroup_24 (by rfl) (by simp [sp_open, *]) (rfl)
set_option maxRecDepth 100000 in
set_option maxHeartbeats 4000000 in
theorem ctX0_sameGroup (F : gl_F) (M : Nat → Int32) (j k : Nat) (hj : j < 40) (hk : k < 40) : gl_Ct F LH yX0_sameGroup wsX0_sameGroup rmX0_sameGroup [.ref (gl_r F 9), .int (nI j), .int (nI k)] M (some (.int (if sp_same M j k then nI 1 else nI 0))) (M) := by
  refine gl_met (cc := cX0_sameGroup) (maxL := 3) (ret := some .boolean) [some (.ref (gl_r F 9)), some (.int (nI j)), some (.int (nI k))] (plainFor_of_name (by decide)) rfl ok_LH (by simp [Value.category]) (Nat.le_of_ble_eq_true rfl) rfl (fun V hV C => ?_)
  subst hV
  refine gl_aload_0 (pc := 0) C dX0_sameGroup_0 ?_
  refine gl_iload_1 (pc := 1) C dX0_sameGroup_1 ?_
  refine gl_callVi (pc := 2) (ctX0_isInGroup V.1 M j hj) C dX0_sameGroup_2 gX0_sameGroup_X0_isInGroup rfl hdX0_isInGroup ⟨rfl, rfl, Nat.le_of_ble_eq_true rfl, Nat.le_of_ble_eq_true rfl⟩ rfl (Nat.le_of_ble_eq_true rfl) rfl rfl rfl ?_
  refine gl_ifeq (pc := 5) 50 C dX0_sameGroup_5 (by decide) (fun h5 => ?_) (fun h5 => ?_)
  · skip
    replace h5 := gl_bz.mp h5
    refine gl_iconst (pc := 50) (nI 0) C dX0_sameGroup_50 (by decide) ?_
    exact gl_zret (pc := 51) C dX0_sameGroup_51 (by rfl) (by simp only [sp_same, *]; try simp [*]) (rfl)
  · skip
    replace h5 := gl_bn.mp h5
    refine gl_aload_0 (pc := 8) C dX0_sameGroup_8 ?_
    refine gl_iload_2 (pc := 9) C dX0_sameGroup_9 ?_
    refine gl_callVi (pc := 10) (ctX0_isInGroup V.1 M k hk) C dX0_sameGroup_10 gX0_sameGroup_X0_isInGroup rfl hdX0_isInGroup ⟨rfl, rfl, Nat.le_of_ble_eq_true rfl, Nat.le_of_ble_eq_true rfl⟩ rfl (Nat.le_of_ble_eq_true rfl) rfl rfl rfl ?_
    refine gl_ifeq (pc := 13) 50 C dX0_sameGroup_13 (by decide) (fun h13 => ?_) (fun h13 => ?_)
    · skip
      replace h13 := gl_bz.mp h13
      refine gl_iconst (pc := 50) (nI 0) C dX0_sameGroup_50 (by decide) ?_
      exact gl_zret (pc := 51) C dX0_sameGroup_51 (by rfl) (by simp only [sp_same, *]; try simp [*]) (rfl)
    · skip
      replace h13 := gl_bn.mp h13
      refine gl_aload_0 (pc := 16) C dX0_sameGroup_16 ?_
      refine gl_getR (pc := 17) C dX0_sameGroup_17 fX0_sameGroup_9 rfl rfl ?_
      refine gl_iload_1 (pc := 20) C dX0_sameGroup_20 ?_
      refine gl_iald (pc := 21) _ C dX0_sameGroup_21 rfl rfl (by omega) ?_
      refine gl_aload_0 (pc := 22) C dX0_sameGroup_22 ?_
      refine gl_getR (pc := 23) C dX0_sameGroup_23 fX0_sameGroup_9 rfl rfl ?_
      refine gl_iload_2 (pc := 26) C dX0_sameGroup_26 ?_
      refine gl_iald (pc := 27) _ C dX0_sameGroup_27 rfl rfl (by omega) ?_
      refine gl_icmp_ne (pc := 28) 50 C dX0_sameGroup_28 (by decide) (fun h28 => ?_) (fun h28 => ?_)
      · skip
        refine gl_iconst (pc := 50) (nI 0) C dX0_sameGroup_50 (by decide) ?_
        exact gl_zret (pc := 51) C dX0_sameGroup_51 (by rfl) (by simp only [sp_same, *]; try simp [*]) (rfl)
      · skip
        refine gl_aload_0 (pc := 31) C dX0_sameGroup_31 ?_
        refine gl_getR (pc := 32) C dX0_sameGroup_32 fX0_sameGroup_15 rfl rfl ?_
        refine gl_iload_1 (pc := 35) C dX0_sameGroup_35 ?_
        refine gl_iald (pc := 36) _ C dX0_sameGroup_36 rfl rfl (by omega) ?_
        refine gl_aload_0 (pc := 37) C dX0_sameGroup_37 ?_
        refine gl_getR (pc := 38) C dX0_sameGroup_38 fX0_sameGroup_15 rfl rfl ?_
        refine gl_iload_2 (pc := 41) C dX0_sameGroup_41 ?_
        refine gl_iald (pc := 42) _ C dX0_sameGroup_42 rfl rfl (by omega) ?_
        refine gl_icmp_ne (pc := 43) 50 C dX0_sameGroup_43 (by decide) (fun h43 => ?_) (fun h43 => ?_)
        · skip
          refine gl_iconst (pc := 50) (nI 0) C dX0_sameGroup_50 (by decide) ?_
          exact gl_zret (pc := 51) C dX0_sameGroup_51 (by rfl) (by simp only [sp_same, *]; try simp [*]) (rfl)
        · skip
          refine gl_iconst (pc := 46) (nI 1) C dX0_sameGroup_46 (by decide) ?_
          refine gl_goto (pc := 47) 51 C dX0_sameGroup_47 (by decide) ?_
          exact gl_zret (pc := 51) C dX0_sameGroup_51 (by rfl) (by simp only [sp_same, *]; try simp [*]) (rfl)
set_option maxRecDepth 100000 in
set_option maxHeartbeats 4000000 in
theorem ctX0_isFirstOfGroup (F : gl_F) (M : Nat → Int32) (k : Nat) (hk : k < 40) : gl_Ct F LH yX0_isFirstOfGroup wsX0_isFirstOfGroup rmX0_isFirstOfGroup [.ref (gl_r F 9), .int (nI k)] M (some (.int (if sp_first M k then nI 1 else nI 0))) (M) := by
  refine gl_met (cc := cX0_isFirstOfGroup) (maxL := 3) (ret := some .boolean) [some (.ref (gl_r F 9)), some (.int (nI k)), none] (plainFor_of_name (by decide)) rfl ok_LH (by simp [Value.category]) (Nat.le_of_ble_eq_true rfl) rfl (fun V hV C => ?_)
  subst hV
  refine gl_iconst (pc := 0) (nI 0) C dX0_isFirstOfGroup_0 (by decide) ?_
  refine gl_istore_2 (pc := 1) C dX0_isFirstOfGroup_1 ?_
  refine gl_loop (pc := 2) (n := k) (fun j => [some (.ref (gl_r V.1 9)), some (.int (nI k)), some (.int (nI j))]) (fun j => M) (fun j => sp_none M k j = true) 0 (Nat.zero_le _) (rfl) (gl_le_c (rfl) (gl_le_c (rfl) (gl_le_c (rfl) (gl_le_n)))) (rfl) (fun hI => ?_) (fun j hj hI ih => ?_)
  · skip
    refine gl_iload_2 (pc := 2) C dX0_isFirstOfGroup_2 ?_
    refine gl_iload_1 (pc := 3) C dX0_isFirstOfGroup_3 ?_
    refine gl_icmp_ge (pc := 4) 24 C dX0_isFirstOfGroup_4 (by decide) (fun h4 => ?_) (fun h4 => absurd h4 (gl_xge))
    refine gl_aload_0 (pc := 24) C dX0_isFirstOfGroup_24 ?_
    refine gl_iload_1 (pc := 25) C dX0_isFirstOfGroup_25 ?_
    refine gl_callVi (pc := 26) (ctX0_isInGroup V.1 M k hk) C dX0_isFirstOfGroup_26 gX0_isFirstOfGroup_X0_isInGroup rfl hdX0_isInGroup ⟨rfl, rfl, Nat.le_of_ble_eq_true rfl, Nat.le_of_ble_eq_true rfl⟩ rfl (Nat.le_of_ble_eq_true rfl) rfl rfl rfl ?_
    exact gl_zret (pc := 29) C dX0_isFirstOfGroup_29 (gl_nb) (by simp [sp_first, hI]) (rfl)
  · skip
    refine gl_iload_2 (pc := 2) C dX0_isFirstOfGroup_2 ?_
    refine gl_iload_1 (pc := 3) C dX0_isFirstOfGroup_3 ?_
    refine gl_icmp_ge (pc := 4) 24 C dX0_isFirstOfGroup_4 (by decide) (fun h4 => absurd h4 (nI_ge hj (by omega))) (fun h4 => ?_)
    refine gl_aload_0 (pc := 7) C dX0_isFirstOfGroup_7 ?_
    refine gl_iload_2 (pc := 8) C dX0_isFirstOfGroup_8 ?_
    refine gl_iload_1 (pc := 9) C dX0_isFirstOfGroup_9 ?_
    refine gl_callVi (pc := 10) (ctX0_sameGroup V.1 M j k (by omega) hk) C dX0_isFirstOfGroup_10 gX0_isFirstOfGroup_X0_sameGroup rfl hdX0_sameGroup ⟨rfl, rfl, Nat.le_of_ble_eq_true rfl, Nat.le_of_ble_eq_true rfl⟩ rfl (Nat.le_of_ble_eq_true rfl) rfl rfl rfl ?_
    refine gl_ifeq (pc := 13) 18 C dX0_isFirstOfGroup_13 (by decide) (fun h13 => ?_) (fun h13 => ?_)
    · skip
      replace h13 := gl_bz.mp h13
      first | with_reducible refine gl_iincN_2 (pc := 18) gl_i1 C dX0_isFirstOfGroup_18 ?_ | refine gl_iinc_2 (pc := 18) C dX0_isFirstOfGroup_18 (gl_inc1 _) ?_
      refine gl_goto (pc := 21) 2 C dX0_isFirstOfGroup_21 (by decide) ?_
      exact gl_on (ih (by simp [sp_none, hI, h13])) (gl_le_c (rfl) (gl_le_c (rfl) (gl_le_c (rfl) (gl_le_n)))) (rfl)
    · skip
      replace h13 := gl_bn.mp h13
      refine gl_iconst (pc := 16) (nI 0) C dX0_isFirstOfGroup_16 (by decide) ?_
      exact gl_zret (pc := 17) C dX0_isFirstOfGroup_17 (by rfl) (by rw [if_neg]; rintro ⟨q, -⟩; rw [sp_none_no h13 k hj] at q; cases q) (rfl)
set_option maxRecDepth 100000 in
set_option maxHeartbeats 4000000 in
theorem ctX0_numberOfGroups (F : gl_F) {n : Nat} (hn40 : n ≤ 40) {M : Nat → Int32} (hn : M 2 = nI n) : gl_Ct F LH yX0_numberOfGroups wsX0_numberOfGroups rmX0_numberOfGroups [.ref (gl_r F 9)] M (some (.int (nI (sp_groups M n)))) (M) := by
  refine gl_met (cc := cX0_numberOfGroups) (maxL := 3) (ret := some .int) [some (.ref (gl_r F 9)), none, none] (plainFor_of_name (by decide)) rfl ok_LH (by simp [Value.category]) (Nat.le_of_ble_eq_true rfl) rfl (fun V hV C => ?_)
  subst hV
  refine gl_iconst (pc := 0) (nI 0) C dX0_numberOfGroups_0 (by decide) ?_
  refine gl_istore_1 (pc := 1) C dX0_numberOfGroups_1 ?_
  refine gl_iconst (pc := 2) (nI 0) C dX0_numberOfGroups_2 (by decide) ?_
  refine gl_istore_2 (pc := 3) C dX0_numberOfGroups_3 ?_
  refine gl_loop (pc := 4) (n := n) (fun k => [some (.ref (gl_r V.1 9)), some (.int (nI (sp_groups M k))), some (.int (nI k))]) (fun k => M) (fun k => True) 0 (Nat.zero_le _) (trivial) (gl_le_c (rfl) (gl_le_c (rfl) (gl_le_c (rfl) (gl_le_n)))) (rfl) (fun hI => ?_) (fun k hk hI ih => ?_)
  · skip
    refine gl_iload_2 (pc := 4) C dX0_numberOfGroups_4 ?_
    refine gl_aload_0 (pc := 5) C dX0_numberOfGroups_5 ?_
    refine gl_getI (pc := 6) C dX0_numberOfGroups_6 fX0_numberOfGroups_36 rfl rfl ?_
    refine gl_top hn ?_
    refine gl_icmp_ge (pc := 9) 29 C dX0_numberOfGroups_9 (by decide) (fun h9 => ?_) (fun h9 => absurd h9 (gl_xge))
    refine gl_iload_1 (pc := 29) C dX0_numberOfGroups_29 ?_
    exact gl_iret (pc := 30) C dX0_numberOfGroups_30 (rfl) (rfl)
  · skip
    refine gl_iload_2 (pc := 4) C dX0_numberOfGroups_4 ?_
    refine gl_aload_0 (pc := 5) C dX0_numberOfGroups_5 ?_
    refine gl_getI (pc := 6) C dX0_numberOfGroups_6 fX0_numberOfGroups_36 rfl rfl ?_
    refine gl_top hn ?_
    refine gl_icmp_ge (pc := 9) 29 C dX0_numberOfGroups_9 (by decide) (fun h9 => absurd h9 (nI_ge hk (by omega))) (fun h9 => ?_)
    refine gl_aload_0 (pc := 12) C dX0_numberOfGroups_12 ?_
    refine gl_iload_2 (pc := 13) C dX0_numberOfGroups_13 ?_
    refine gl_callVi (pc := 14) (ctX0_isFirstOfGroup V.1 M k (by omega)) C dX0_numberOfGroups_14 gX0_numberOfGroups_X0_isFirstOfGroup rfl hdX0_isFirstOfGroup ⟨rfl, rfl, Nat.le_of_ble_eq_true rfl, Nat.le_of_ble_eq_true rfl⟩ rfl (Nat.le_of_ble_eq_true rfl) rfl rfl rfl ?_
    refine gl_ifeq (pc := 17) 23 C dX0_numberOfGroups_17 (by decide) (fun h17 => ?_) (fun h17 => ?_)
    · skip
      replace h17 := gl_bz.mp h17
      first | with_reducible refine gl_iincN_2 (pc := 23) gl_i1 C dX0_numberOfGroups_23 ?_ | refine gl_iinc_2 (pc := 23) C dX0_numberOfGroups_23 (gl_inc1 _) ?_
      refine gl_goto (pc := 26) 4 C dX0_numberOfGroups_26 (by decide) ?_
      exact gl_on (ih (trivial)) (gl_le_c (rfl) (gl_le_c (congrArg Value.int (by first | rw [sp_groups, if_pos h17] | rw [sp_groups, if_neg h17])) (gl_le_c (rfl) (gl_le_n)))) (rfl)
    · skip
      replace h17 := gl_bn.mp h17
      first | with_reducible refine gl_iincN_1 (pc := 20) gl_i1 C dX0_numberOfGroups_20 ?_ | refine gl_iinc_1 (pc := 20) C dX0_numberOfGroups_20 (gl_inc1 _) ?_
      first | with_reducible refine gl_iincN_2 (pc := 23) gl_i1 C dX0_numberOfGroups_23 ?_ | refine gl_iinc_2 (pc := 23) C dX0_numberOfGroups_23 (gl_inc1 _) ?_
      refine gl_goto (pc := 26) 4 C dX0_numberOfGroups_26 (by decide) ?_
      exact gl_on (ih (trivial)) (gl_le_c (rfl) (gl_le_c (congrArg Value.int (by first | rw [sp_groups, if_pos h17] | rw [sp_groups, if_neg h17])) (gl_le_c (rfl) (gl_le_n)))) (rfl)
set_option maxRecDepth 100000 in
set_option maxHeartbeats 4000000 in
theorem ctX0_firstOfGroup (F : gl_F) {n : Nat} (hn40 : n ≤ 40) {M : Nat → Int32} (hn : M 2 = nI n) (i : Int32) : gl_Ct F LH yX0_firstOfGroup wsX0_firstOfGroup rmX0_firstOfGroup [.ref (gl_r F 9), .int i] M (some (.int (sp_fog M i n))) (M) := by
  refine gl_met (cc := cX0_firstOfGroup) (maxL := 4) (ret := some .int) [some (.ref (gl_r F 9)), some (.int i), none, none] (plainFor_of_name (by decide)) rfl ok_LH (by simp [Value.category]) (Nat.le_of_ble_eq_true rfl) rfl (fun V hV C => ?_)
  subst hV
  refine gl_iconst (pc := 0) (nI 0) C dX0_firstOfGroup_0 (by decide) ?_
  refine gl_istore_2 (pc := 1) C dX0_firstOfGroup_1 ?_
  refine gl_iconst (pc := 2) (nI 0) C dX0_firstOfGroup_2 (by decide) ?_
  refine gl_istore_3 (pc := 3) C dX0_firstOfGroup_3 ?_
  refine gl_loop (pc := 4) (n := n) (fun k => [some (.ref (gl_r V.1 9)), some (.int i), some (.int (nI (sp_groups M k))), some (.int (nI k))]) (fun k => M) (fun k => sp_fog M i k = -9) 0 (Nat.zero_le _) (rfl) (gl_le_c (rfl) (gl_le_c (rfl) (gl_le_c (rfl) (gl_le_c (rfl) (gl_le_n))))) (rfl) (fun hI => ?_) (fun k hk hI ih => ?_)
  · skip
    refine gl_iload_3 (pc := 4) C dX0_firstOfGroup_4 ?_
    refine gl_aload_0 (pc := 5) C dX0_firstOfGroup_5 ?_
    refine gl_getI (pc := 6) C dX0_firstOfGroup_6 fX0_firstOfGroup_36 rfl rfl ?_
    refine gl_top hn ?_
    refine gl_icmp_ge (pc := 9) 39 C dX0_firstOfGroup_9 (by decide) (fun h9 => ?_) (fun h9 => absurd h9 (gl_xge))
    refine gl_bipush (pc := 39) (-9) C dX0_firstOfGroup_39 (by decide +kernel) ?_
    exact gl_iret (pc := 41) C dX0_firstOfGroup_41 (hI.symm) (rfl)
  · skip
    refine gl_iload_3 (pc := 4) C dX0_firstOfGroup_4 ?_
    refine gl_aload_0 (pc := 5) C dX0_firstOfGroup_5 ?_
    refine gl_getI (pc := 6) C dX0_firstOfGroup_6 fX0_firstOfGroup_36 rfl rfl ?_
    refine gl_top hn ?_
    refine gl_icmp_ge (pc := 9) 39 C dX0_firstOfGroup_9 (by decide) (fun h9 => absurd h9 (nI_ge hk (by omega))) (fun h9 => ?_)
    refine gl_aload_0 (pc := 12) C dX0_firstOfGroup_12 ?_
    refine gl_iload_3 (pc := 13) C dX0_firstOfGroup_13 ?_
    refine gl_callVi (pc := 14) (ctX0_isFirstOfGroup V.1 M k (by omega)) C dX0_firstOfGroup_14 gX0_firstOfGroup_X0_isFirstOfGroup rfl hdX0_isFirstOfGroup ⟨rfl, rfl, Nat.le_of_ble_eq_true rfl, Nat.le_of_ble_eq_true rfl⟩ rfl (Nat.le_of_ble_eq_true rfl) rfl rfl rfl ?_
    refine gl_ifne (pc := 17) 23 C dX0_firstOfGroup_17 (by decide) (fun h17 => ?_) (fun h17 => ?_)
    · skip
      replace h17 := gl_bn.mp h17
      refine gl_iload_2 (pc := 23) C dX0_firstOfGroup_23 ?_
      refine gl_iload_1 (pc := 24) C dX0_firstOfGroup_24 ?_
      refine gl_icmp_ne (pc := 25) 30 C dX0_firstOfGroup_25 (by decide) (fun h25 => ?_) (fun h25 => ?_)
      · skip
        first | with_reducible refine gl_iincN_2 (pc := 30) gl_i1 C dX0_firstOfGroup_30 ?_ | refine gl_iinc_2 (pc := 30) C dX0_firstOfGroup_30 (gl_inc1 _) ?_
        first | with_reducible refine gl_iincN_3 (pc := 33) gl_i1 C dX0_firstOfGroup_33 ?_ | refine gl_iinc_3 (pc := 33) C dX0_firstOfGroup_33 (gl_inc1 _) ?_
        refine gl_goto (pc := 36) 4 C dX0_firstOfGroup_36 (by decide) ?_
        exact gl_on (ih (by rw [sp_fog, if_neg]; exact hI; intro q; first | exact h17 q.1 | exact h25 q.2)) (gl_le_c (rfl) (gl_le_c (rfl) (gl_le_c (congrArg Value.int (by first | rw [sp_groups, if_pos h17] | rw [sp_groups, if_neg h17])) (gl_le_c (rfl) (gl_le_n))))) (rfl)
      · skip
        refine gl_iload_3 (pc := 28) C dX0_firstOfGroup_28 ?_
        exact gl_iret (pc := 29) C dX0_firstOfGroup_29 ((sp_fog_at h17 h25 n hk hn40).symm) (rfl)
    · skip
      replace h17 := gl_bz.mp h17
      refine gl_goto (pc := 20) 33 C dX0_firstOfGroup_20 (by decide) ?_
      first | with_reducible refine gl_iincN_3 (pc := 33) gl_i1 C dX0_firstOfGroup_33 ?_ | refine gl_iinc_3 (pc := 33) C dX0_firstOfGroup_33 (gl_inc1 _) ?_
      refine gl_goto (pc := 36) 4 C dX0_firstOfGroup_36 (by decide) ?_
      exact gl_on (ih (by rw [sp_fog, if_neg]; exact hI; intro q; first | exact h17 q.1 | exact h25 q.2)) (gl_le_c (rfl) (gl_le_c (rfl) (gl_le_c (congrArg Value.int (by first | rw [sp_groups, if_pos h17] | rw [sp_groups, if_neg h17])) (gl_le_c (rfl) (gl_le_n))))) (rfl)
set_option maxRecDepth 100000 in
set_option maxHeartbeats 4000000 in
theorem ctX0_sizeOfGroup (F : gl_F) {n : Nat} (hn40 : n ≤ 40) {M : Nat → Int32} (hn : M 2 = nI n) (f : Nat) (hf : f < 40) : gl_Ct F LH yX0_sizeOfGroup wsX0_sizeOfGroup rmX0_sizeOfGroup [.ref (gl_r F 9), .int (nI f)] M (some (.int (sp_size M f n))) (M) := by
  refine gl_met (cc := cX0_sizeOfGroup) (maxL := 4) (ret := some .int) [some (.ref (gl_r F 9)), some (.int (nI f)), none, none] (plainFor_of_name (by decide)) rfl ok_LH (by simp [Value.category]) (Nat.le_of_ble_eq_true rfl) rfl (fun V hV C => ?_)
  subst hV
  refine gl_iconst (pc := 0) (nI 0) C dX0_sizeOfGroup_0 (by decide) ?_
  refine gl_istore_2 (pc := 1) C dX0_sizeOfGroup_1 ?_
  refine gl_iconst (pc := 2) (nI 0) C dX0_sizeOfGroup_2 (by decide) ?_
  refine gl_istore_3 (pc := 3) C dX0_sizeOfGroup_3 ?_
  refine gl_loop (pc := 4) (n := n) (fun k => [some (.ref (gl_r V.1 9)), some (.int (nI f)), some (.int (sp_size M f k)), some (.int (nI k))]) (fun k => M) (fun k => True) 0 (Nat.zero_le _) (trivial) (gl_le_c (rfl) (gl_le_c (rfl) (gl_le_c (rfl) (gl_le_c (rfl) (gl_le_n))))) (rfl) (fun hI => ?_) (fun k hk hI ih => ?_)
  · skip
    refine gl_iload_3 (pc := 4) C dX0_sizeOfGroup_4 ?_
    refine gl_aload_0 (pc := 5) C dX0_sizeOfGroup_5 ?_
    refine gl_getI (pc := 6) C dX0_sizeOfGroup_6 fX0_sizeOfGroup_36 rfl rfl ?_
    refine gl_top hn ?_
    refine gl_icmp_ge (pc := 9) 30 C dX0_sizeOfGroup_9 (by decide) (fun h9 => ?_) (fun h9 => absurd h9 (gl_xge))
    refine gl_iload_2 (pc := 30) C dX0_sizeOfGroup_30 ?_
    exact gl_iret (pc := 31) C dX0_sizeOfGroup_31 (rfl) (rfl)
  · skip
    refine gl_iload_3 (pc := 4) C dX0_sizeOfGroup_4 ?_
    refine gl_aload_0 (pc := 5) C dX0_sizeOfGroup_5 ?_
    refine gl_getI (pc := 6) C dX0_sizeOfGroup_6 fX0_sizeOfGroup_36 rfl rfl ?_
    refine gl_top hn ?_
    refine gl_icmp_ge (pc := 9) 30 C dX0_sizeOfGroup_9 (by decide) (fun h9 => absurd h9 (nI_ge hk (by omega))) (fun h9 => ?_)
    refine gl_aload_0 (pc := 12) C dX0_sizeOfGroup_12 ?_
    refine gl_iload_1 (pc := 13) C dX0_sizeOfGroup_13 ?_
    refine gl_iload_3 (pc := 14) C dX0_sizeOfGroup_14 ?_
    refine gl_callVi (pc := 15) (ctX0_sameGroup V.1 M f k hf (by omega)) C dX0_sizeOfGroup_15 gX0_sizeOfGroup_X0_sameGroup rfl hdX0_sameGroup ⟨rfl, rfl, Nat.le_of_ble_eq_true rfl, Nat.le_of_ble_eq_true rfl⟩ rfl (Nat.le_of_ble_eq_true rfl) rfl rfl rfl ?_
    refine gl_ifeq (pc := 18) 24 C dX0_sizeOfGroup_18 (by decide) (fun h18 => ?_) (fun h18 => ?_)
    · skip
      replace h18 := gl_bz.mp h18
      first | with_reducible refine gl_iincN_3 (pc := 24) gl_i1 C dX0_sizeOfGroup_24 ?_ | refine gl_iinc_3 (pc := 24) C dX0_sizeOfGroup_24 (gl_inc1 _) ?_
      refine gl_goto (pc := 27) 4 C dX0_sizeOfGroup_27 (by decide) ?_
      exact gl_on (ih (trivial)) (gl_le_c (rfl) (gl_le_c (rfl) (gl_le_c (congrArg Value.int (by first | rw [sp_size, if_pos h18] | rw [sp_size, if_neg h18])) (gl_le_c (rfl) (gl_le_n))))) (rfl)
    · skip
      replace h18 := gl_bn.mp h18
      first | with_reducible refine gl_iincN_2 (pc := 21) gl_i1 C dX0_sizeOfGroup_21 ?_ | refine gl_iinc_2 (pc := 21) C dX0_sizeOfGroup_21 (gl_inc1 _) ?_
      first | with_reducible refine gl_iincN_3 (pc := 24) gl_i1 C dX0_sizeOfGroup_24 ?_ | refine gl_iinc_3 (pc := 24) C dX0_sizeOfGroup_24 (gl_inc1 _) ?_
      refine gl_goto (pc := 27) 4 C dX0_sizeOfGroup_27 (by decide) ?_
      exact gl_on (ih (trivial)) (gl_le_c (rfl) (gl_le_c (rfl) (gl_le_c (congrArg Value.int (by first | rw [sp_size, if_pos h18] | rw [sp_size, if_neg h18])) (gl_le_c (rfl) (gl_le_n))))) (rfl)
set_option maxRecDepth 100000 in
set_option maxHeartbeats 4000000 in
theorem ctX0_aimOf (F : gl_F) {n : Nat} (hn40 : n ≤ 40) {M : Nat → Int32} (hn : M 2 = nI n) (hg : ∀ k, k < n → sp_fl (M (iK k 1))) (c : Int32) {fl : Int32} (hf : sp_fl fl) : gl_Ct F LH yX0_aimOf wsX0_aimOf rmX0_aimOf [.ref (gl_r F 9), .int c, .int fl] M (some (.int (sp_aim M c fl n))) (M) := by
  refine gl_met (cc := cX0_aimOf) (maxL := 6) (ret := some .int) [some (.ref (gl_r F 9)), some (.int c), some (.int fl), none, none, none] (plainFor_of_name (by decide)) rfl ok_LH (by simp [Value.category]) (Nat.le_of_ble_eq_true rfl) rfl (fun V hV C => ?_)
  subst hV
  refine gl_bipush (pc := 0) (-9) C dX0_aimOf_0 (by decide +kernel) ?_
  refine gl_istore_3 (pc := 2) C dX0_aimOf_2 ?_
  refine gl_bipush (pc := 3) (-9) C dX0_aimOf_3 (by decide +kernel) ?_
  refine gl_istore_4 (pc := 5) C dX0_aimOf_5 ?_
  refine gl_iconst (pc := 7) (nI 0) C dX0_aimOf_7 (by decide) ?_
  refine gl_istore_5 (pc := 8) C dX0_aimOf_8 ?_
  refine gl_loop (pc := 10) (n := n) (fun k => [some (.ref (gl_r V.1 9)), some (.int c), some (.int fl), some (.int (sp_aims M c fl k).1), some (.int (sp_aims M c fl k).2), some (.int (nI k))]) (fun k => M) (fun k => True) 0 (Nat.zero_le _) (trivial) (gl_le_c (rfl) (gl_le_c (rfl) (gl_le_c (rfl) (gl_le_c (rfl) (gl_le_c (rfl) (gl_le_c (rfl) (gl_le_n))))))) (rfl) (fun hI => ?_) (fun k hk hI ih => ?_)
  · skip
    refine gl_iload_5 (pc := 10) C dX0_aimOf_10 ?_
    refine gl_aload_0 (pc := 12) C dX0_aimOf_12 ?_
    refine gl_getI (pc := 13) C dX0_aimOf_13 fX0_aimOf_36 rfl rfl ?_
    refine gl_top hn ?_
    refine gl_icmp_ge (pc := 16) 93 C dX0_aimOf_16 (by decide) (fun h16 => ?_) (fun h16 => absurd h16 (gl_xge))
    refine gl_iload_3 (pc := 93) C dX0_aimOf_93 ?_
    refine gl_bipush (pc := 94) (-9) C dX0_aimOf_94 (by decide +kernel) ?_
    refine gl_icmp_eq (pc := 96) 103 C dX0_aimOf_96 (by decide) (fun h96 => ?_) (fun h96 => ?_)
    · skip
      refine gl_iload_4 (pc := 103) C dX0_aimOf_103 ?_
      exact gl_iret (pc := 105) C dX0_aimOf_105 (by simp [sp_aim, *]) (rfl)
    · skip
      refine gl_iload_3 (pc := 99) C dX0_aimOf_99 ?_
      refine gl_goto (pc := 100) 105 C dX0_aimOf_100 (by decide) ?_
      exact gl_iret (pc := 105) C dX0_aimOf_105 (by simp [sp_aim, *]) (rfl)
  · skip
    refine gl_iload_5 (pc := 10) C dX0_aimOf_10 ?_
    refine gl_aload_0 (pc := 12) C dX0_aimOf_12 ?_
    refine gl_getI (pc := 13) C dX0_aimOf_13 fX0_aimOf_36 rfl rfl ?_
    refine gl_top hn ?_
    refine gl_icmp_ge (pc := 16) 93 C dX0_aimOf_16 (by decide) (fun h16 => absurd h16 (nI_ge hk (by omega))) (fun h16 => ?_)
    refine gl_aload_0 (pc := 19) C dX0_aimOf_19 ?_
    refine gl_iload_5 (pc := 20) C dX0_aimOf_20 ?_
    refine gl_iload_1 (pc := 22) C dX0_aimOf_22 ?_
    refine gl_callVi (pc := 23) (ctX0_rides V.1 M k (by omega) c) C dX0_aimOf_23 gX0_aimOf_X0_rides rfl hdX0_rides ⟨rfl, rfl, Nat.le_of_ble_eq_true rfl, Nat.le_of_ble_eq_true rfl⟩ rfl (Nat.le_of_ble_eq_true rfl) rfl rfl rfl ?_
    refine gl_ifeq (pc := 26) 61 C dX0_aimOf_26 (by decide) (fun h26 => ?_) (fun h26 => ?_)
    · skip
      replace h26 := gl_bz.mp h26
      refine gl_iload_4 (pc := 61) C dX0_aimOf_61 ?_
      refine gl_bipush (pc := 63) (-9) C dX0_aimOf_63 (by decide +kernel) ?_
      refine gl_icmp_ne (pc := 65) 87 C dX0_aimOf_65 (by decide) (fun h65 => ?_) (fun h65 => ?_)
      · skip
        first | with_reducible refine gl_iincN_5 (pc := 87) gl_i1 C dX0_aimOf_87 ?_ | refine gl_iinc_5 (pc := 87) C dX0_aimOf_87 (gl_inc1 _) ?_
        refine gl_goto (pc := 90) 10 C dX0_aimOf_90 (by decide) ?_
        exact gl_on (ih (trivial)) (gl_le_c (rfl) (gl_le_c (rfl) (gl_le_c (rfl) (gl_le_c (congrArg Value.int (by grind [sp_aims])) (gl_le_c (congrArg Value.int (by grind [sp_aims])) (gl_le_c (rfl) (gl_le_n))))))) (rfl)
      · skip
        refine gl_aload_0 (pc := 68) C dX0_aimOf_68 ?_
        refine gl_iload_5 (pc := 69) C dX0_aimOf_69 ?_
        refine gl_iload_1 (pc := 71) C dX0_aimOf_71 ?_
        refine gl_callVi (pc := 72) (ctX0_waitsFor V.1 M k (by omega) c) C dX0_aimOf_72 gX0_aimOf_X0_waitsFor rfl hdX0_waitsFor ⟨rfl, rfl, Nat.le_of_ble_eq_true rfl, Nat.le_of_ble_eq_true rfl⟩ rfl (Nat.le_of_ble_eq_true rfl) rfl rfl rfl ?_
        refine gl_ifeq (pc := 75) 87 C dX0_aimOf_75 (by decide) (fun h75 => ?_) (fun h75 => ?_)
        · skip
          replace h75 := gl_bz.mp h75
          first | with_reducible refine gl_iincN_5 (pc := 87) gl_i1 C dX0_aimOf_87 ?_ | refine gl_iinc_5 (pc := 87) C dX0_aimOf_87 (gl_inc1 _) ?_
          refine gl_goto (pc := 90) 10 C dX0_aimOf_90 (by decide) ?_
          exact gl_on (ih (trivial)) (gl_le_c (rfl) (gl_le_c (rfl) (gl_le_c (rfl) (gl_le_c (congrArg Value.int (by grind [sp_aims])) (gl_le_c (congrArg Value.int (by grind [sp_aims])) (gl_le_c (rfl) (gl_le_n))))))) (rfl)
        · skip
          replace h75 := gl_bn.mp h75
          refine gl_aload_0 (pc := 78) C dX0_aimOf_78 ?_
          refine gl_getR (pc := 79) C dX0_aimOf_79 fX0_aimOf_9 rfl rfl ?_
          refine gl_iload_5 (pc := 82) C dX0_aimOf_82 ?_
          refine gl_iald (pc := 84) _ C dX0_aimOf_84 rfl rfl (by omega) ?_
          refine gl_istore_4 (pc := 85) C dX0_aimOf_85 ?_
          first | with_reducible refine gl_iincN_5 (pc := 87) gl_i1 C dX0_aimOf_87 ?_ | refine gl_iinc_5 (pc := 87) C dX0_aimOf_87 (gl_inc1 _) ?_
          refine gl_goto (pc := 90) 10 C dX0_aimOf_90 (by decide) ?_
          exact gl_on (ih (trivial)) (gl_le_c (rfl) (gl_le_c (rfl) (gl_le_c (rfl) (gl_le_c (congrArg Value.int (by grind [sp_aims])) (gl_le_c (congrArg Value.int (by grind [sp_aims])) (gl_le_c (rfl) (gl_le_n))))))) (rfl)
    · skip
      replace h26 := gl_bn.mp h26
      refine gl_iload_3 (pc := 29) C dX0_aimOf_29 ?_
      refine gl_bipush (pc := 30) (-9) C dX0_aimOf_30 (by decide +kernel) ?_
      refine gl_icmp_eq (pc := 32) 50 C dX0_aimOf_32 (by decide) (fun h32 => ?_) (fun h32 => ?_)
      · skip
        refine gl_aload_0 (pc := 50) C dX0_aimOf_50 ?_
        refine gl_getR (pc := 51) C dX0_aimOf_51 fX0_aimOf_15 rfl rfl ?_
        refine gl_iload_5 (pc := 54) C dX0_aimOf_54 ?_
        refine gl_iald (pc := 56) _ C dX0_aimOf_56 rfl rfl (by omega) ?_
        refine gl_istore_3 (pc := 57) C dX0_aimOf_57 ?_
        refine gl_goto (pc := 58) 87 C dX0_aimOf_58 (by decide) ?_
        first | with_reducible refine gl_iincN_5 (pc := 87) gl_i1 C dX0_aimOf_87 ?_ | refine gl_iinc_5 (pc := 87) C dX0_aimOf_87 (gl_inc1 _) ?_
        refine gl_goto (pc := 90) 10 C dX0_aimOf_90 (by decide) ?_
        exact gl_on (ih (trivial)) (gl_le_c (rfl) (gl_le_c (rfl) (gl_le_c (rfl) (gl_le_c (congrArg Value.int (by grind [sp_aims])) (gl_le_c (congrArg Value.int (by grind [sp_aims])) (gl_le_c (rfl) (gl_le_n))))))) (rfl)
      · skip
        refine gl_aload_0 (pc := 35) C dX0_aimOf_35 ?_
        refine gl_getR (pc := 36) C dX0_aimOf_36 fX0_aimOf_15 rfl rfl ?_
        refine gl_iload_5 (pc := 39) C dX0_aimOf_39 ?_
        refine gl_iald (pc := 41) _ C dX0_aimOf_41 rfl rfl (by omega) ?_
        refine gl_iload_3 (pc := 42) C dX0_aimOf_42 ?_
        refine gl_iload_2 (pc := 43) C dX0_aimOf_43 ?_
        refine gl_callSi (pc := 44) (ctX0_isNearer V.1 M (hg k hk) ((sp_aims_ok hg k (by omega)).resolve_left h32) hf) C dX0_aimOf_44 gX0_aimOf_X0_isNearer rfl hdX0_isNearer ⟨rfl, rfl, Nat.le_of_ble_eq_true rfl, Nat.le_of_ble_eq_true rfl⟩ rfl (Nat.le_of_ble_eq_true rfl) rfl ?_
        refine gl_ifeq (pc := 47) 87 C dX0_aimOf_47 (by decide) (fun h47 => ?_) (fun h47 => ?_)
        · skip
          replace h47 := gl_bz.mp h47
          first | with_reducible refine gl_iincN_5 (pc := 87) gl_i1 C dX0_aimOf_87 ?_ | refine gl_iinc_5 (pc := 87) C dX0_aimOf_87 (gl_inc1 _) ?_
          refine gl_goto (pc := 90) 10 C dX0_aimOf_90 (by decide) ?_
          exact gl_on (ih (trivial)) (gl_le_c (rfl) (gl_le_c (rfl) (gl_le_c (rfl) (gl_le_c (congrArg Value.int (by grind [sp_aims])) (gl_le_c (congrArg Value.int (by grind [sp_aims])) (gl_le_c (rfl) (gl_le_n))))))) (rfl)
        · skip
          replace h47 := gl_bn.mp h47
          refine gl_aload_0 (pc := 50) C dX0_aimOf_50 ?_
          refine gl_getR (pc := 51) C dX0_aimOf_51 fX0_aimOf_15 rfl rfl ?_
          refine gl_iload_5 (pc := 54) C dX0_aimOf_54 ?_
          refine gl_iald (pc := 56) _ C dX0_aimOf_56 rfl rfl (by omega) ?_
          refine gl_istore_3 (pc := 57) C dX0_aimOf_57 ?_
          refine gl_goto (pc := 58) 87 C dX0_aimOf_58 (by decide) ?_
          first | with_reducible refine gl_iincN_5 (pc := 87) gl_i1 C dX0_aimOf_87 ?_ | refine gl_iinc_5 (pc := 87) C dX0_aimOf_87 (gl_inc1 _) ?_
          refine gl_goto (pc := 90) 10 C dX0_aimOf_90 (by decide) ?_
          exact gl_on (ih (trivial)) (gl_le_c (rfl) (gl_le_c (rfl) (gl_le_c (rfl) (gl_le_c (congrArg Value.int (by grind [sp_aims])) (gl_le_c (congrArg Value.int (by grind [sp_aims])) (gl_le_c (rfl) (gl_le_n))))))) (rfl)
set_option maxRecDepth 100000 in
set_option maxHeartbeats 4000000 in
theorem ctX1_has (F : gl_F) (M : Nat → Int32) (x : Int32) : gl_Ct F LH yX1_has wsX1_has rmX1_has [.ref (gl_r F 2), .int x] M (some (.int (if sp_has x (M 1) then nI 1 else nI 0))) (M) := by
  refine gl_met (cc := cX1_has) (maxL := 2) (ret := some .boolean) [some (.ref (gl_r F 2)), some (.int x)] (plainFor_of_name (by decide)) rfl ok_LH (by simp [Value.category]) (Nat.le_of_ble_eq_true rfl) rfl (fun V hV C => ?_)
  subst hV
  refine gl_iload_1 (pc := 0) C dX1_has_0 ?_
  refine gl_iflt (pc := 1) 16 C dX1_has_1 (by decide) (fun h1 => ?_) (fun h1 => ?_)
  · skip
    refine gl_iconst (pc := 16) (nI 0) C dX1_has_16 (by decide) ?_
    exact gl_zret (pc := 17) C dX1_has_17 (by rfl) (by simp [*]) (rfl)
  · skip
    refine gl_iload_1 (pc := 4) C dX1_has_4 ?_
    refine gl_aload_0 (pc := 5) C dX1_has_5 ?_
    refine gl_getI (pc := 6) C dX1_has_6 fX1_has_30 rfl rfl ?_
    refine gl_icmp_ge (pc := 9) 16 C dX1_has_9 (by decide) (fun h9 => ?_) (fun h9 => ?_)
    · skip
      refine gl_iconst (pc := 16) (nI 0) C dX1_has_16 (by decide) ?_
      exact gl_zret (pc := 17) C dX1_has_17 (by rfl) (by simp [*]) (rfl)
    · skip
      refine gl_iconst (pc := 12) (nI 1) C dX1_has_12 (by decide) ?_
      refine gl_goto (pc := 13) 17 C dX1_has_13 (by decide) ?_
      exact gl_zret (pc := 17) C dX1_has_17 (by rfl) (by simp [*]) (rfl)
set_option maxRecDepth 100000 in
set_option maxHeartbeats 4000000 in
theorem ctX1_serves (F : gl_F) (M : Nat → Int32) (c : Nat) (hc : c < 5) (x : Int32) : gl_Ct F LH yX1_serves wsX1_serves rmX1_serves [.ref (gl_r F 2), .int (nI c), .int x] M (some (.int (if sp_serves M c x then nI 1 else nI 0))) (M) := by
  refine gl_met (cc := cX1_serves) (maxL := 3) (ret := some .boolean) [some (.ref (gl_r F 2)), some (.int (nI c)), some (.int x)] (plainFor_of_name (by decide)) rfl ok_LH (by simp [Value.category]) (Nat.le_of_ble_eq_true rfl) rfl (fun V hV C => ?_)
  subst hV
  refine gl_iload_2 (pc := 0) C dX1_serves_0 ?_
  refine gl_aload_0 (pc := 1) C dX1_serves_1 ?_
  refine gl_getR (pc := 2) C dX1_serves_2 fX1_serves_9 rfl rfl ?_
  refine gl_iload_1 (pc := 5) C dX1_serves_5 ?_
  refine gl_iald (pc := 6) _ C dX1_serves_6 rfl rfl (by omega) ?_
  refine gl_icmp_lt (pc := 7) 24 C dX1_serves_7 (by decide) (fun h7 => ?_) (fun h7 => ?_)
  · skip
    refine gl_iconst (pc := 24) (nI 0) C dX1_serves_24 (by decide) ?_
    exact gl_zret (pc := 25) C dX1_serves_25 (by rfl) (by simp only [sp_serves]; simp [*]) (rfl)
  · skip
    refine gl_iload_2 (pc := 10) C dX1_serves_10 ?_
    refine gl_aload_0 (pc := 11) C dX1_serves_11 ?_
    refine gl_getR (pc := 12) C dX1_serves_12 fX1_serves_15 rfl rfl ?_
    refine gl_iload_1 (pc := 15) C dX1_serves_15 ?_
    refine gl_iald (pc := 16) _ C dX1_serves_16 rfl rfl (by omega) ?_
    refine gl_icmp_gt (pc := 17) 24 C dX1_serves_17 (by decide) (fun h17 => ?_) (fun h17 => ?_)
    · skip
      refine gl_iconst (pc := 24) (nI 0) C dX1_serves_24 (by decide) ?_
      exact gl_zret (pc := 25) C dX1_serves_25 (by rfl) (by simp only [sp_serves]; simp [*]) (rfl)
    · skip
      refine gl_iconst (pc := 20) (nI 1) C dX1_serves_20 (by decide) ?_
      refine gl_goto (pc := 21) 25 C dX1_serves_21 (by decide) ?_
      exact gl_zret (pc := 25) C dX1_serves_25 (by rfl) (by simp only [sp_serves]; simp [*]) (rfl)
set_option maxRecDepth 100000 in
set_option maxHeartbeats 4000000 in
theorem ctX1_numberIn (F : gl_F) {m : Nat} (hm5 : m ≤ 5) {M : Nat → Int32} (hm : M 1 = nI m) (is : Int32) : gl_Ct F LH yX1_numberIn wsX1_numberIn rmX1_numberIn [.ref (gl_r F 2), .int is] M (some (.int (sp_cst M is m))) (M) := by
  refine gl_met (cc := cX1_numberIn) (maxL := 4) (ret := some .int) [some (.ref (gl_r F 2)), some (.int is), none, none] (plainFor_of_name (by decide)) rfl ok_LH (by simp [Value.category]) (Nat.le_of_ble_eq_true rfl) rfl (fun V hV C => ?_)
  subst hV
  refine gl_iconst (pc := 0) (nI 0) C dX1_numberIn_0 (by decide) ?_
  refine gl_istore_2 (pc := 1) C dX1_numberIn_1 ?_
  refine gl_iconst (pc := 2) (nI 0) C dX1_numberIn_2 (by decide) ?_
  refine gl_istore_3 (pc := 3) C dX1_numberIn_3 ?_
  refine gl_loop (pc := 4) (n := m) (fun c => [some (.ref (gl_r V.1 2)), some (.int is), some (.int (sp_cst M is c)), some (.int (nI c))]) (fun c => M) (fun c => True) 0 (Nat.zero_le _) (trivial) (gl_le_c (rfl) (gl_le_c (rfl) (gl_le_c (rfl) (gl_le_c (rfl) (gl_le_n))))) (rfl) (fun hI => ?_) (fun c hc hI ih => ?_)
  · skip
    refine gl_iload_3 (pc := 4) C dX1_numberIn_4 ?_
    refine gl_aload_0 (pc := 5) C dX1_numberIn_5 ?_
    refine gl_getI (pc := 6) C dX1_numberIn_6 fX1_numberIn_30 rfl rfl ?_
    refine gl_top hm ?_
    refine gl_icmp_ge (pc := 9) 31 C dX1_numberIn_9 (by decide) (fun h9 => ?_) (fun h9 => absurd h9 (gl_xge))
    refine gl_iload_2 (pc := 31) C dX1_numberIn_31 ?_
    exact gl_iret (pc := 32) C dX1_numberIn_32 (rfl) (rfl)
  · skip
    refine gl_iload_3 (pc := 4) C dX1_numberIn_4 ?_
    refine gl_aload_0 (pc := 5) C dX1_numberIn_5 ?_
    refine gl_getI (pc := 6) C dX1_numberIn_6 fX1_numberIn_30 rfl rfl ?_
    refine gl_top hm ?_
    refine gl_icmp_ge (pc := 9) 31 C dX1_numberIn_9 (by decide) (fun h9 => absurd h9 (nI_ge hc (by omega))) (fun h9 => ?_)
    refine gl_aload_0 (pc := 12) C dX1_numberIn_12 ?_
    refine gl_getR (pc := 13) C dX1_numberIn_13 fX1_numberIn_24 rfl rfl ?_
    refine gl_iload_3 (pc := 16) C dX1_numberIn_16 ?_
    refine gl_iald (pc := 17) _ C dX1_numberIn_17 rfl rfl (by omega) ?_
    refine gl_iload_1 (pc := 18) C dX1_numberIn_18 ?_
    refine gl_icmp_ne (pc := 19) 25 C dX1_numberIn_19 (by decide) (fun h19 => ?_) (fun h19 => ?_)
    · skip
      first | with_reducible refine gl_iincN_3 (pc := 25) gl_i1 C dX1_numberIn_25 ?_ | refine gl_iinc_3 (pc := 25) C dX1_numberIn_25 (gl_inc1 _) ?_
      refine gl_goto (pc := 28) 4 C dX1_numberIn_28 (by decide) ?_
      exact gl_on (ih (trivial)) (gl_le_c (rfl) (gl_le_c (rfl) (gl_le_c (congrArg Value.int (by simp [sp_cst, *])) (gl_le_c (rfl) (gl_le_n))))) (rfl)
    · skip
      first | with_reducible refine gl_iincN_2 (pc := 22) gl_i1 C dX1_numberIn_22 ?_ | refine gl_iinc_2 (pc := 22) C dX1_numberIn_22 (gl_inc1 _) ?_
      first | with_reducible refine gl_iincN_3 (pc := 25) gl_i1 C dX1_numberIn_25 ?_ | refine gl_iinc_3 (pc := 25) C dX1_numberIn_25 (gl_inc1 _) ?_
      refine gl_goto (pc := 28) 4 C dX1_numberIn_28 (by decide) ?_
      exact gl_on (ih (trivial)) (gl_le_c (rfl) (gl_le_c (rfl) (gl_le_c (congrArg Value.int (by simp [sp_cst, *])) (gl_le_c (rfl) (gl_le_n))))) (rfl)
set_option maxRecDepth 100000 in
set_option maxHeartbeats 4000000 in
theorem ctX1_travelledByAll (F : gl_F) {m : Nat} (hm5 : m ≤ 5) {M : Nat → Int32} (hm : M 1 = nI m) : gl_Ct F LH yX1_travelledByAll wsX1_travelledByAll rmX1_travelledByAll [.ref (gl_r F 2)] M (some (.int (sp_went M m))) (M) := by
  refine gl_met (cc := cX1_travelledByAll) (maxL := 3) (ret := some .int) [some (.ref (gl_r F 2)), none, none] (plainFor_of_name (by decide)) rfl ok_LH (by simp [Value.category]) (Nat.le_of_ble_eq_true rfl) rfl (fun V hV C => ?_)
  subst hV
  refine gl_iconst (pc := 0) (nI 0) C dX1_travelledByAll_0 (by decide) ?_
  refine gl_istore_1 (pc := 1) C dX1_travelledByAll_1 ?_
  refine gl_iconst (pc := 2) (nI 0) C dX1_travelledByAll_2 (by decide) ?_
  refine gl_istore_2 (pc := 3) C dX1_travelledByAll_3 ?_
  refine gl_loop (pc := 4) (n := m) (fun c => [some (.ref (gl_r V.1 2)), some (.int (sp_went M c)), some (.int (nI c))]) (fun c => M) (fun c => True) 0 (Nat.zero_le _) (trivial) (gl_le_c (rfl) (gl_le_c (rfl) (gl_le_c (rfl) (gl_le_n)))) (rfl) (fun hI => ?_) (fun c hc hI ih => ?_)
  · skip
    refine gl_iload_2 (pc := 4) C dX1_travelledByAll_4 ?_
    refine gl_aload_0 (pc := 5) C dX1_travelledByAll_5 ?_
    refine gl_getI (pc := 6) C dX1_travelledByAll_6 fX1_travelledByAll_30 rfl rfl ?_
    refine gl_top hm ?_
    refine gl_icmp_ge (pc := 9) 27 C dX1_travelledByAll_9 (by decide) (fun h9 => ?_) (fun h9 => absurd h9 (gl_xge))
    refine gl_iload_1 (pc := 27) C dX1_travelledByAll_27 ?_
    exact gl_iret (pc := 28) C dX1_travelledByAll_28 (rfl) (rfl)
  · skip
    refine gl_iload_2 (pc := 4) C dX1_travelledByAll_4 ?_
    refine gl_aload_0 (pc := 5) C dX1_travelledByAll_5 ?_
    refine gl_getI (pc := 6) C dX1_travelledByAll_6 fX1_travelledByAll_30 rfl rfl ?_
    refine gl_top hm ?_
    refine gl_icmp_ge (pc := 9) 27 C dX1_travelledByAll_9 (by decide) (fun h9 => absurd h9 (nI_ge hc (by omega))) (fun h9 => ?_)
    refine gl_iload_1 (pc := 12) C dX1_travelledByAll_12 ?_
    refine gl_aload_0 (pc := 13) C dX1_travelledByAll_13 ?_
    refine gl_getR (pc := 14) C dX1_travelledByAll_14 fX1_travelledByAll_27 rfl rfl ?_
    refine gl_iload_2 (pc := 17) C dX1_travelledByAll_17 ?_
    refine gl_iald (pc := 18) _ C dX1_travelledByAll_18 rfl rfl (by omega) ?_
    first | with_reducible refine gl_iaddN (pc := 19) C dX1_travelledByAll_19 ?_ | refine gl_iadd (pc := 19) C dX1_travelledByAll_19 ?_
    refine gl_istore_1 (pc := 20) C dX1_travelledByAll_20 ?_
    first | with_reducible refine gl_iincN_2 (pc := 21) gl_i1 C dX1_travelledByAll_21 ?_ | refine gl_iinc_2 (pc := 21) C dX1_travelledByAll_21 (gl_inc1 _) ?_
    refine gl_goto (pc := 24) 4 C dX1_travelledByAll_24 (by decide) ?_
    exact gl_on (ih (trivial)) (gl_le_c (rfl) (gl_le_c (rfl) (gl_le_c (rfl) (gl_le_n)))) (rfl)
set_option maxRecDepth 100000 in
set_option maxHeartbeats 4000000 in
theorem ctJ9_floorMod (F : gl_F) (lay : List gl_Ce) (hok : gl_ok lay) (M : Nat → Int32) {a b : Nat} (ha : a < 2 ^ 31) (hb0 : 0 < b) (hb : b < 2 ^ 31) : gl_Ct F lay yJ9_floorMod_7cf53 wsJ9_floorMod_7cf53 rmJ9_floorMod_7cf53 [.int (nI a), .int (nI b)] M (some (.int (nI (a % b)))) (M) := by
  refine gl_met (cc := cJ9_floorMod_7cf53) (maxL := 3) (ret := some .int) [some (.int (nI a)), some (.int (nI b)), none] (by decide +kernel) rfl hok (by simp [Value.category]) (Nat.le_of_ble_eq_true rfl) rfl (fun V hV C => ?_)
  subst hV
  refine gl_iload_0 (pc := 0) C dJ9_floorMod_7cf53_0 ?_
  refine gl_iload_1 (pc := 1) C dJ9_floorMod_7cf53_1 ?_
  refine gl_irem (pc := 2) C dJ9_floorMod_7cf53_2 (nI_ne0 hb0 hb) ?_
  refine gl_top (pk_rem ha hb0 hb) ?_
  refine gl_istore_2 (pc := 3) C dJ9_floorMod_7cf53_3 ?_
  refine gl_iload_0 (pc := 4) C dJ9_floorMod_7cf53_4 ?_
  refine gl_iload_1 (pc := 5) C dJ9_floorMod_7cf53_5 ?_
  refine gl_ixor (pc := 6) C dJ9_floorMod_7cf53_6 ?_
  refine gl_ifge (pc := 7) 18 C dJ9_floorMod_7cf53_7 (by decide) (fun h7 => ?_) (fun h7 => absurd h7 (not_not_intro (by rw [nx_xor]; exact nI_pos' (Nat.xor_lt_two_pow ha hb))))
  refine gl_iload_2 (pc := 18) C dJ9_floorMod_7cf53_18 ?_
  exact gl_iret (pc := 19) C dJ9_floorMod_7cf53_19 (rfl) (rfl)
set_option maxRecDepth 100000 in
set_option maxHeartbeats 4000000 in
theorem ctJ9_floorMod_m1 (F : gl_F) (lay : List gl_Ce) (hok : gl_ok lay) (M : Nat → Int32) : gl_Ct F lay yJ9_floorMod_7cf53 wsJ9_floorMod_7cf53 rmJ9_floorMod_7cf53 [.int (-1), .int (nI 5)] M (some (.int (nI 4))) (M) := by
  refine gl_met (cc := cJ9_floorMod_7cf53) (maxL := 3) (ret := some .int) [some (.int (-1)), some (.int (nI 5)), none] (by decide +kernel) rfl hok (by simp [Value.category]) (Nat.le_of_ble_eq_true rfl) rfl (fun V hV C => ?_)
  subst hV
  refine gl_iload_0 (pc := 0) C dJ9_floorMod_7cf53_0 ?_
  refine gl_iload_1 (pc := 1) C dJ9_floorMod_7cf53_1 ?_
  refine gl_irem (pc := 2) C dJ9_floorMod_7cf53_2 (by decide) ?_
  refine gl_top (y := -1) (by decide +kernel) ?_
  refine gl_istore_2 (pc := 3) C dJ9_floorMod_7cf53_3 ?_
  refine gl_iload_0 (pc := 4) C dJ9_floorMod_7cf53_4 ?_
  refine gl_iload_1 (pc := 5) C dJ9_floorMod_7cf53_5 ?_
  refine gl_ixor (pc := 6) C dJ9_floorMod_7cf53_6 ?_
  refine gl_ifge (pc := 7) 18 C dJ9_floorMod_7cf53_7 (by decide) (fun h7 => absurd h7 (by decide +kernel)) (fun h7 => ?_)
  refine gl_iload_2 (pc := 10) C dJ9_floorMod_7cf53_10 ?_
  refine gl_ifeq (pc := 11) 18 C dJ9_floorMod_7cf53_11 (by decide) (fun h11 => absurd h11 (by decide +kernel)) (fun h11 => ?_)
  refine gl_iload_2 (pc := 14) C dJ9_floorMod_7cf53_14 ?_
  refine gl_iload_1 (pc := 15) C dJ9_floorMod_7cf53_15 ?_
  first | with_reducible refine gl_iaddN (pc := 16) C dJ9_floorMod_7cf53_16 ?_ | refine gl_iadd (pc := 16) C dJ9_floorMod_7cf53_16 ?_
  exact gl_iret (pc := 17) C dJ9_floorMod_7cf53_17 (by decide +kernel) (rfl)
set_option maxRecDepth 100000 in
set_option maxHeartbeats 4000000 in
theorem ctJ6_bitCount (F : gl_F) (lay : List gl_Ce) (hok : gl_ok lay) (M : Nat → Int32) {x : Int32} (h : sp_b16 x) : gl_Ct F lay yJ6_bitCount_0f7a4 wsJ6_bitCount_0f7a4 rmJ6_bitCount_0f7a4 [.int x] M (some (.int (sp_pop x))) (M) := by
  refine gl_met (cc := cJ6_bitCount_0f7a4) (maxL := 1) (ret := some .int) [some (.int x)] (by decide +kernel) rfl hok (by simp [Value.category]) (Nat.le_of_ble_eq_true rfl) rfl (fun V hV C => ?_)
  subst hV
  refine gl_iload_0 (pc := 0) C dJ6_bitCount_0f7a4_0 ?_
  refine gl_iload_0 (pc := 1) C dJ6_bitCount_0f7a4_1 ?_
  refine gl_iconst (pc := 2) (nI 1) C dJ6_bitCount_0f7a4_2 (by decide) ?_
  refine gl_iushr (pc := 3) C dJ6_bitCount_0f7a4_3 ?_
  refine gl_ldcw (pc := 4) (1431655765) C dJ6_bitCount_0f7a4_4 (by decide +kernel) ?_
  refine gl_iand (pc := 7) C dJ6_bitCount_0f7a4_7 ?_
  refine gl_isub (pc := 8) C dJ6_bitCount_0f7a4_8 ?_
  refine gl_istore_0 (pc := 9) C dJ6_bitCount_0f7a4_9 ?_
  refine gl_iload_0 (pc := 10) C dJ6_bitCount_0f7a4_10 ?_
  refine gl_ldcw (pc := 11) (858993459) C dJ6_bitCount_0f7a4_11 (by decide +kernel) ?_
  refine gl_iand (pc := 14) C dJ6_bitCount_0f7a4_14 ?_
  refine gl_iload_0 (pc := 15) C dJ6_bitCount_0f7a4_15 ?_
  refine gl_iconst (pc := 16) (nI 2) C dJ6_bitCount_0f7a4_16 (by decide) ?_
  refine gl_iushr (pc := 17) C dJ6_bitCount_0f7a4_17 ?_
  refine gl_ldcw (pc := 18) (858993459) C dJ6_bitCount_0f7a4_18 (by decide +kernel) ?_
  refine gl_iand (pc := 21) C dJ6_bitCount_0f7a4_21 ?_
  first | with_reducible refine gl_iaddN (pc := 22) C dJ6_bitCount_0f7a4_22 ?_ | refine gl_iadd (pc := 22) C dJ6_bitCount_0f7a4_22 ?_
  refine gl_istore_0 (pc := 23) C dJ6_bitCount_0f7a4_23 ?_
  refine gl_iload_0 (pc := 24) C dJ6_bitCount_0f7a4_24 ?_
  refine gl_iload_0 (pc := 25) C dJ6_bitCount_0f7a4_25 ?_
  refine gl_iconst (pc := 26) (nI 4) C dJ6_bitCount_0f7a4_26 (by decide) ?_
  refine gl_iushr (pc := 27) C dJ6_bitCount_0f7a4_27 ?_
  first | with_reducible refine gl_iaddN (pc := 28) C dJ6_bitCount_0f7a4_28 ?_ | refine gl_iadd (pc := 28) C dJ6_bitCount_0f7a4_28 ?_
  refine gl_ldcw (pc := 29) (252645135) C dJ6_bitCount_0f7a4_29 (by decide +kernel) ?_
  refine gl_iand (pc := 32) C dJ6_bitCount_0f7a4_32 ?_
  refine gl_istore_0 (pc := 33) C dJ6_bitCount_0f7a4_33 ?_
  refine gl_iload_0 (pc := 34) C dJ6_bitCount_0f7a4_34 ?_
  refine gl_iload_0 (pc := 35) C dJ6_bitCount_0f7a4_35 ?_
  refine gl_bipush (pc := 36) (nI 8) C dJ6_bitCount_0f7a4_36 (by decide +kernel) ?_
  refine gl_iushr (pc := 38) C dJ6_bitCount_0f7a4_38 ?_
  first | with_reducible refine gl_iaddN (pc := 39) C dJ6_bitCount_0f7a4_39 ?_ | refine gl_iadd (pc := 39) C dJ6_bitCount_0f7a4_39 ?_
  refine gl_istore_0 (pc := 40) C dJ6_bitCount_0f7a4_40 ?_
  refine gl_iload_0 (pc := 41) C dJ6_bitCount_0f7a4_41 ?_
  refine gl_iload_0 (pc := 42) C dJ6_bitCount_0f7a4_42 ?_
  refine gl_bipush (pc := 43) (nI 16) C dJ6_bitCount_0f7a4_43 (by decide +kernel) ?_
  refine gl_iushr (pc := 45) C dJ6_bitCount_0f7a4_45 ?_
  first | with_reducible refine gl_iaddN (pc := 46) C dJ6_bitCount_0f7a4_46 ?_ | refine gl_iadd (pc := 46) C dJ6_bitCount_0f7a4_46 ?_
  refine gl_istore_0 (pc := 47) C dJ6_bitCount_0f7a4_47 ?_
  refine gl_iload_0 (pc := 48) C dJ6_bitCount_0f7a4_48 ?_
  refine gl_bipush (pc := 49) (nI 63) C dJ6_bitCount_0f7a4_49 (by decide +kernel) ?_
  refine gl_iand (pc := 51) C dJ6_bitCount_0f7a4_51 ?_
  exact gl_iret (pc := 52) C dJ6_bitCount_0f7a4_52 (sp_bc_ok h) (rfl)
set_option maxRecDepth 100000 in
set_option maxHeartbeats 4000000 in
theorem ctX3_hour (F : gl_F) {n m t : Nat} {M : Nat → Int32} (w : sp_W n m t M) (ht31 : t < 2 ^ 31) : gl_Ct F LH yX3_hour wsX3_hour rmX3_hour [.ref (gl_r F 0)] M (some (.int (nI (sp_hr t)))) (M) := by
  refine gl_met (cc := cX3_hour) (maxL := 1) (ret := some .int) [some (.ref (gl_r F 0))] (plainFor_of_name (by decide)) rfl ok_LH (by simp [Value.category]) (Nat.le_of_ble_eq_true rfl) rfl (fun V hV C => ?_)
  subst hV
  obtain ⟨hn40, hm5, hn, hm, ht, hcar, hcal⟩ := id w
  refine gl_aload_0 (pc := 0) C dX3_hour_0 ?_
  refine gl_getI (pc := 1) C dX3_hour_1 fX3_hour_29 rfl rfl ?_
  refine gl_top ht ?_
  refine gl_bipush (pc := 4) (nI 60) C dX3_hour_4 (by decide +kernel) ?_
  refine gl_idiv (pc := 6) C dX3_hour_6 (by decide) ?_
  refine gl_top (pk_div ht31 (by omega) (by omega)) ?_
  refine gl_bipush (pc := 7) (nI 24) C dX3_hour_7 (by decide +kernel) ?_
  refine gl_irem (pc := 9) C dX3_hour_9 (by decide) ?_
  refine gl_top (pk_rem (by omega) (by omega) (by omega)) ?_
  exact gl_iret (pc := 10) C dX3_hour_10 (rfl) (rfl)
set_option maxRecDepth 100000 in
set_option maxHeartbeats 4000000 in
theorem ctX3_isAwake (F : gl_F) {n m t : Nat} {M : Nat → Int32} (w : sp_W n m t M) (ht31 : t < 2 ^ 31) (c : Nat) : gl_Ct F LH yX3_isAwake wsX3_isAwake rmX3_isAwake [.ref (gl_r F 0), .int (nI c)] M (some (.int (if sp_awake M t c then nI 1 else nI 0))) (M) := by
  refine gl_met (cc := cX3_isAwake) (maxL := 2) (ret := some .boolean) [some (.ref (gl_r F 0)), some (.int (nI c))] (plainFor_of_name (by decide)) rfl ok_LH (by simp [Value.category]) (Nat.le_of_ble_eq_true rfl) rfl (fun V hV C => ?_)
  subst hV
  refine gl_iload_1 (pc := 0) C dX3_isAwake_0 ?_
  refine gl_aload_0 (pc := 1) C dX3_isAwake_1 ?_
  refine gl_getR (pc := 2) C dX3_isAwake_2 fX3_isAwake_9 rfl rfl ?_
  refine gl_aload_0 (pc := 5) C dX3_isAwake_5 ?_
  refine gl_callVi (pc := 6) (ctX3_hour V.1 w ht31) C dX3_isAwake_6 gX3_isAwake_X3_hour rfl hdX3_hour ⟨rfl, rfl, Nat.le_of_ble_eq_true rfl, Nat.le_of_ble_eq_true rfl⟩ rfl (Nat.le_of_ble_eq_true rfl) rfl rfl rfl ?_
  refine gl_iald (pc := 9) _ C dX3_isAwake_9 rfl rfl (Nat.mod_lt _ (by omega)) ?_
  refine gl_icmp_ge (pc := 10) 17 C dX3_isAwake_10 (by decide) (fun h10 => ?_) (fun h10 => ?_)
  · skip
    refine gl_iconst (pc := 17) (nI 0) C dX3_isAwake_17 (by decide) ?_
    exact gl_zret (pc := 18) C dX3_isAwake_18 (by rfl) (by simp only [sp_awake]; simp [*]) (rfl)
  · skip
    refine gl_iconst (pc := 13) (nI 1) C dX3_isAwake_13 (by decide) ?_
    refine gl_goto (pc := 14) 18 C dX3_isAwake_14 (by decide) ?_
    exact gl_zret (pc := 18) C dX3_isAwake_18 (by rfl) (by simp only [sp_awake]; simp [*]) (rfl)
set_option maxRecDepth 100000 in
set_option maxHeartbeats 4000000 in
theorem ctX3_canBeGiven (F : gl_F) {n m t : Nat} {M : Nat → Int32} (w : sp_W n m t M) (ht31 : t < 2 ^ 31) {c : Nat} (hc : c < 5) (f g : Int32) : gl_Ct F LH yX3_canBeGiven wsX3_canBeGiven rmX3_canBeGiven [.ref (gl_r F 0), .int (nI c), .int f, .int g] M (some (.int (if sp_can M t c f g then nI 1 else nI 0))) (M) := by
  refine gl_met (cc := cX3_canBeGiven) (maxL := 4) (ret := some .boolean) [some (.ref (gl_r F 0)), some (.int (nI c)), some (.int f), some (.int g)] (plainFor_of_name (by decide)) rfl ok_LH (by simp [Value.category]) (Nat.le_of_ble_eq_true rfl) rfl (fun V hV C => ?_)
  subst hV
  refine gl_aload_0 (pc := 0) C dX3_canBeGiven_0 ?_
  refine gl_getR (pc := 1) C dX3_canBeGiven_1 fX3_canBeGiven_18 rfl rfl ?_
  refine gl_getR (pc := 4) C dX3_canBeGiven_4 fX3_canBeGiven_50 rfl rfl ?_
  refine gl_iload_1 (pc := 7) C dX3_canBeGiven_7 ?_
  refine gl_iald (pc := 8) _ C dX3_canBeGiven_8 rfl rfl (by omega) ?_
  refine gl_ifne (pc := 9) 48 C dX3_canBeGiven_9 (by decide) (fun h9 => ?_) (fun h9 => ?_)
  · skip
    refine gl_iconst (pc := 48) (nI 0) C dX3_canBeGiven_48 (by decide) ?_
    exact gl_zret (pc := 49) C dX3_canBeGiven_49 (by rfl) (by grind) (rfl)
  · skip
    refine gl_aload_0 (pc := 12) C dX3_canBeGiven_12 ?_
    refine gl_iload_1 (pc := 13) C dX3_canBeGiven_13 ?_
    refine gl_callVi (pc := 14) (ctX3_isAwake V.1 w ht31 c) C dX3_canBeGiven_14 gX3_canBeGiven_X3_isAwake rfl hdX3_isAwake ⟨rfl, rfl, Nat.le_of_ble_eq_true rfl, Nat.le_of_ble_eq_true rfl⟩ rfl (Nat.le_of_ble_eq_true rfl) rfl rfl rfl ?_
    refine gl_ifeq (pc := 17) 48 C dX3_canBeGiven_17 (by decide) (fun h17 => ?_) (fun h17 => ?_)
    · skip
      replace h17 := gl_bz.mp h17
      refine gl_iconst (pc := 48) (nI 0) C dX3_canBeGiven_48 (by decide) ?_
      exact gl_zret (pc := 49) C dX3_canBeGiven_49 (by rfl) (by grind) (rfl)
    · skip
      replace h17 := gl_bn.mp h17
      refine gl_aload_0 (pc := 20) C dX3_canBeGiven_20 ?_
      refine gl_getR (pc := 21) C dX3_canBeGiven_21 fX3_canBeGiven_18 rfl rfl ?_
      refine gl_iload_1 (pc := 24) C dX3_canBeGiven_24 ?_
      refine gl_iload_2 (pc := 25) C dX3_canBeGiven_25 ?_
      refine gl_callVi (pc := 26) (ctX1_serves V.1 M c hc f) C dX3_canBeGiven_26 gX3_canBeGiven_X1_serves rfl hdX1_serves ⟨rfl, rfl, Nat.le_of_ble_eq_true rfl, Nat.le_of_ble_eq_true rfl⟩ rfl (Nat.le_of_ble_eq_true rfl) rfl rfl rfl ?_
      refine gl_ifeq (pc := 29) 48 C dX3_canBeGiven_29 (by decide) (fun h29 => ?_) (fun h29 => ?_)
      · skip
        replace h29 := gl_bz.mp h29
        refine gl_iconst (pc := 48) (nI 0) C dX3_canBeGiven_48 (by decide) ?_
        exact gl_zret (pc := 49) C dX3_canBeGiven_49 (by rfl) (by grind) (rfl)
      · skip
        replace h29 := gl_bn.mp h29
        refine gl_aload_0 (pc := 32) C dX3_canBeGiven_32 ?_
        refine gl_getR (pc := 33) C dX3_canBeGiven_33 fX3_canBeGiven_18 rfl rfl ?_
        refine gl_iload_1 (pc := 36) C dX3_canBeGiven_36 ?_
        refine gl_iload_3 (pc := 37) C dX3_canBeGiven_37 ?_
        refine gl_callVi (pc := 38) (ctX1_serves V.1 M c hc g) C dX3_canBeGiven_38 gX3_canBeGiven_X1_serves rfl hdX1_serves ⟨rfl, rfl, Nat.le_of_ble_eq_true rfl, Nat.le_of_ble_eq_true rfl⟩ rfl (Nat.le_of_ble_eq_true rfl) rfl rfl rfl ?_
        refine gl_ifeq (pc := 41) 48 C dX3_canBeGiven_41 (by decide) (fun h41 => ?_) (fun h41 => ?_)
        · skip
          replace h41 := gl_bz.mp h41
          refine gl_iconst (pc := 48) (nI 0) C dX3_canBeGiven_48 (by decide) ?_
          exact gl_zret (pc := 49) C dX3_canBeGiven_49 (by rfl) (by grind) (rfl)
        · skip
          replace h41 := gl_bn.mp h41
          refine gl_iconst (pc := 44) (nI 1) C dX3_canBeGiven_44 (by decide) ?_
          refine gl_goto (pc := 45) 49 C dX3_canBeGiven_45 (by decide) ?_
          exact gl_zret (pc := 49) C dX3_canBeGiven_49 (by rfl) (by grind) (rfl)
set_option maxRecDepth 100000 in
set_option maxHeartbeats 4000000 in
theorem ctX3_costOf (F : gl_F) {n m t : Nat} {M : Nat → Int32} (w : sp_W n m t M) {c : Nat} (hc : c < m) {f g : Int32} (hf : sp_fl f) (hg : sp_fl g) : gl_Ct F LH yX3_costOf wsX3_costOf rmX3_costOf [.ref (gl_r F 0), .int (nI c), .int f, .int g] M (some (.int (sp_cost M c f g n))) (M) := by
  refine gl_met (cc := cX3_costOf) (maxL := 6) (ret := some .int) [some (.ref (gl_r F 0)), some (.int (nI c)), some (.int f), some (.int g), none, none] (plainFor_of_name (by decide)) rfl ok_LH (by simp [Value.category]) (Nat.le_of_ble_eq_true rfl) rfl (fun V hV C => ?_)
  subst hV
  obtain ⟨hn40, hm5, hn, hm, ht, hcar, hcal⟩ := id w
  refine gl_aload_0 (pc := 0) C dX3_costOf_0 ?_
  refine gl_getR (pc := 1) C dX3_costOf_1 fX3_costOf_18 rfl rfl ?_
  refine gl_getR (pc := 4) C dX3_costOf_4 fX3_costOf_61 rfl rfl ?_
  refine gl_iload_1 (pc := 7) C dX3_costOf_7 ?_
  refine gl_iald (pc := 8) _ C dX3_costOf_8 rfl rfl (by omega) ?_
  refine gl_iload_2 (pc := 9) C dX3_costOf_9 ?_
  refine gl_isub (pc := 10) C dX3_costOf_10 ?_
  refine gl_abs (pc := 11) C dX3_costOf_11 (by decide +kernel) (by decide +kernel) (by decide +kernel) (by decide +kernel) ⟨Nat.le_of_ble_eq_true rfl, Nat.le_of_ble_eq_true rfl⟩ ?_
  refine gl_top (sp_far_abs (hcar c hc).2.2.1 hf) ?_
  refine gl_istore_4 (pc := 14) C dX3_costOf_14 ?_
  refine gl_aload_0 (pc := 16) C dX3_costOf_16 ?_
  refine gl_getR (pc := 17) C dX3_costOf_17 fX3_costOf_25 rfl rfl ?_
  refine gl_iload_1 (pc := 20) C dX3_costOf_20 ?_
  refine gl_callVi (pc := 21) (ctX0_stopsOf V.1 hn40 hn (nI c)) C dX3_costOf_21 gX3_costOf_X0_stopsOf rfl hdX0_stopsOf ⟨rfl, rfl, Nat.le_of_ble_eq_true rfl, Nat.le_of_ble_eq_true rfl⟩ rfl (Nat.le_of_ble_eq_true rfl) rfl rfl rfl ?_
  refine gl_iconst (pc := 24) (nI 1) C dX3_costOf_24 (by decide) ?_
  refine gl_iload_2 (pc := 25) C dX3_costOf_25 ?_
  refine gl_ishl (pc := 26) C dX3_costOf_26 ?_
  refine gl_ior (pc := 27) C dX3_costOf_27 ?_
  refine gl_iconst (pc := 28) (nI 1) C dX3_costOf_28 (by decide) ?_
  refine gl_iload_3 (pc := 29) C dX3_costOf_29 ?_
  refine gl_ishl (pc := 30) C dX3_costOf_30 ?_
  refine gl_ior (pc := 31) C dX3_costOf_31 ?_
  refine gl_callSi (pc := 32) (ctJ6_bitCount V.1 LH ok_LH M (x := sp_bits M (nI c) f g n) (sp_b16_or (sp_b16_or (sp_b16_stops n (fun k hk => ⟨(hcal k hk).1, (hcal k hk).2.1⟩)) (sp_b16_sh hf)) (sp_b16_sh hg))) C dX3_costOf_32 gX3_costOf_J6_bitCount_0f7a4 rfl hdJ6_bitCount_0f7a4 ⟨rfl, rfl, Nat.le_of_ble_eq_true rfl, Nat.le_of_ble_eq_true rfl⟩ rfl (Nat.le_of_ble_eq_true rfl) rfl ?_
  refine gl_istore_5 (pc := 35) C dX3_costOf_35 ?_
  refine gl_iload_4 (pc := 37) C dX3_costOf_37 ?_
  refine gl_iconst (pc := 39) (nI 2) C dX3_costOf_39 (by decide) ?_
  refine gl_iload_5 (pc := 40) C dX3_costOf_40 ?_
  first | with_reducible refine gl_imulN (pc := 42) C dX3_costOf_42 ?_ | refine gl_imul (pc := 42) C dX3_costOf_42 ?_
  first | with_reducible refine gl_iaddN (pc := 43) C dX3_costOf_43 ?_ | refine gl_iadd (pc := 43) C dX3_costOf_43 ?_
  refine gl_aload_0 (pc := 44) C dX3_costOf_44 ?_
  refine gl_getR (pc := 45) C dX3_costOf_45 fX3_costOf_25 rfl rfl ?_
  refine gl_iload_1 (pc := 48) C dX3_costOf_48 ?_
  refine gl_callVi (pc := 49) (ctX0_numberWith V.1 hn40 hn (nI c)) C dX3_costOf_49 gX3_costOf_X0_numberWith rfl hdX0_numberWith ⟨rfl, rfl, Nat.le_of_ble_eq_true rfl, Nat.le_of_ble_eq_true rfl⟩ rfl (Nat.le_of_ble_eq_true rfl) rfl rfl rfl ?_
  first | with_reducible refine gl_iaddN (pc := 52) C dX3_costOf_52 ?_ | refine gl_iadd (pc := 52) C dX3_costOf_52 ?_
  exact gl_iret (pc := 53) C dX3_costOf_53 (rfl) (rfl)
set_option maxRecDepth 100000 in
set_option maxHeartbeats 4000000 in
theorem ctX3_bestCar (F : gl_F) {n m t : Nat} {M : Nat → Int32} (w : sp_W n m t M) (ht31 : t < 2 ^ 31) {f g : Int32} (hf : sp_fl f) (hg : sp_fl g) : gl_Ct F LH yX3_bestCar wsX3_bestCar rmX3_bestCar [.ref (gl_r F 0), .int f, .int g] M (some (.int (sp_best M t f g n m).1)) (M) := by
  refine gl_met (cc := cX3_bestCar) (maxL := 7) (ret := some .int) [some (.ref (gl_r F 0)), some (.int f), some (.int g), none, none, none, none] (plainFor_of_name (by decide)) rfl ok_LH (by simp [Value.category]) (Nat.le_of_ble_eq_true rfl) rfl (fun V hV C => ?_)
  subst hV
  obtain ⟨hn40, hm5, hn, hm, ht, hcar, hcal⟩ := id w
  refine gl_bipush (pc := 0) (-9) C dX3_bestCar_0 (by decide +kernel) ?_
  refine gl_istore_3 (pc := 2) C dX3_bestCar_2 ?_
  refine gl_iconst (pc := 3) (nI 0) C dX3_bestCar_3 (by decide) ?_
  refine gl_istore_4 (pc := 4) C dX3_bestCar_4 ?_
  refine gl_iconst (pc := 6) (nI 0) C dX3_bestCar_6 (by decide) ?_
  refine gl_istore_5 (pc := 7) C dX3_bestCar_7 ?_
  refine gl_loop (pc := 9) (n := m) (fun c => [some (.ref (gl_r V.1 0)), some (.int f), some (.int g), some (.int (sp_best M t f g n c).1), some (.int (sp_best M t f g n c).2), some (.int (nI c)), none]) (fun c => M) (fun c => True) 0 (Nat.zero_le _) (trivial) (gl_le_c (rfl) (gl_le_c (rfl) (gl_le_c (rfl) (gl_le_c (rfl) (gl_le_c (rfl) (gl_le_c (rfl) (gl_le_o (gl_le_n)))))))) (rfl) (fun hI => ?_) (fun c hc hI ih => ?_)
  · skip
    refine gl_iload_5 (pc := 9) C dX3_bestCar_9 ?_
    refine gl_aload_0 (pc := 11) C dX3_bestCar_11 ?_
    refine gl_getR (pc := 12) C dX3_bestCar_12 fX3_bestCar_18 rfl rfl ?_
    refine gl_getI (pc := 15) C dX3_bestCar_15 fX3_bestCar_81 rfl rfl ?_
    refine gl_top hm ?_
    refine gl_icmp_ge (pc := 18) 71 C dX3_bestCar_18 (by decide) (fun h18 => ?_) (fun h18 => absurd h18 (gl_xge))
    refine gl_iload_3 (pc := 71) C dX3_bestCar_71 ?_
    exact gl_iret (pc := 72) C dX3_bestCar_72 (rfl) (rfl)
  · skip
    refine gl_iload_5 (pc := 9) C dX3_bestCar_9 ?_
    refine gl_aload_0 (pc := 11) C dX3_bestCar_11 ?_
    refine gl_getR (pc := 12) C dX3_bestCar_12 fX3_bestCar_18 rfl rfl ?_
    refine gl_getI (pc := 15) C dX3_bestCar_15 fX3_bestCar_81 rfl rfl ?_
    refine gl_top hm ?_
    refine gl_icmp_ge (pc := 18) 71 C dX3_bestCar_18 (by decide) (fun h18 => absurd h18 (nI_ge hc (by omega))) (fun h18 => ?_)
    refine gl_aload_0 (pc := 21) C dX3_bestCar_21 ?_
    refine gl_iload_5 (pc := 22) C dX3_bestCar_22 ?_
    refine gl_iload_1 (pc := 24) C dX3_bestCar_24 ?_
    refine gl_iload_2 (pc := 25) C dX3_bestCar_25 ?_
    refine gl_callVi (pc := 26) (ctX3_canBeGiven V.1 w ht31 (by omega) f g) C dX3_bestCar_26 gX3_bestCar_X3_canBeGiven rfl hdX3_canBeGiven ⟨rfl, rfl, Nat.le_of_ble_eq_true rfl, Nat.le_of_ble_eq_true rfl⟩ rfl (Nat.le_of_ble_eq_true rfl) rfl rfl rfl ?_
    refine gl_ifne (pc := 29) 35 C dX3_bestCar_29 (by decide) (fun h29 => ?_) (fun h29 => ?_)
    · skip
      replace h29 := gl_bn.mp h29
      refine gl_aload_0 (pc := 35) C dX3_bestCar_35 ?_
      refine gl_iload_5 (pc := 36) C dX3_bestCar_36 ?_
      refine gl_iload_1 (pc := 38) C dX3_bestCar_38 ?_
      refine gl_iload_2 (pc := 39) C dX3_bestCar_39 ?_
      refine gl_callVi (pc := 40) (ctX3_costOf V.1 w hc hf hg) C dX3_bestCar_40 gX3_bestCar_X3_costOf rfl hdX3_costOf ⟨rfl, rfl, Nat.le_of_ble_eq_true rfl, Nat.le_of_ble_eq_true rfl⟩ rfl (Nat.le_of_ble_eq_true rfl) rfl rfl rfl ?_
      refine gl_istore_6 (pc := 43) C dX3_bestCar_43 ?_
      refine gl_iload_3 (pc := 45) C dX3_bestCar_45 ?_
      refine gl_bipush (pc := 46) (-9) C dX3_bestCar_46 (by decide +kernel) ?_
      refine gl_icmp_eq (pc := 48) 58 C dX3_bestCar_48 (by decide) (fun h48 => ?_) (fun h48 => ?_)
      · skip
        refine gl_iload_5 (pc := 58) C dX3_bestCar_58 ?_
        refine gl_istore_3 (pc := 60) C dX3_bestCar_60 ?_
        refine gl_iload_6 (pc := 61) C dX3_bestCar_61 ?_
        refine gl_istore_4 (pc := 63) C dX3_bestCar_63 ?_
        first | with_reducible refine gl_iincN_5 (pc := 65) gl_i1 C dX3_bestCar_65 ?_ | refine gl_iinc_5 (pc := 65) C dX3_bestCar_65 (gl_inc1 _) ?_
        refine gl_goto (pc := 68) 9 C dX3_bestCar_68 (by decide) ?_
        exact gl_on (ih (trivial)) (gl_le_c (rfl) (gl_le_c (rfl) (gl_le_c (rfl) (gl_le_c (congrArg Value.int (by grind [sp_best])) (gl_le_c (congrArg Value.int (by grind [sp_best])) (gl_le_c (rfl) (gl_le_o (gl_le_n)))))))) (rfl)
      · skip
        refine gl_iload_6 (pc := 51) C dX3_bestCar_51 ?_
        refine gl_iload_4 (pc := 53) C dX3_bestCar_53 ?_
        refine gl_icmp_ge (pc := 55) 65 C dX3_bestCar_55 (by decide) (fun h55 => ?_) (fun h55 => ?_)
        · skip
          first | with_reducible refine gl_iincN_5 (pc := 65) gl_i1 C dX3_bestCar_65 ?_ | refine gl_iinc_5 (pc := 65) C dX3_bestCar_65 (gl_inc1 _) ?_
          refine gl_goto (pc := 68) 9 C dX3_bestCar_68 (by decide) ?_
          exact gl_on (ih (trivial)) (gl_le_c (rfl) (gl_le_c (rfl) (gl_le_c (rfl) (gl_le_c (congrArg Value.int (by grind [sp_best])) (gl_le_c (congrArg Value.int (by grind [sp_best])) (gl_le_c (rfl) (gl_le_o (gl_le_n)))))))) (rfl)
        · skip
          refine gl_iload_5 (pc := 58) C dX3_bestCar_58 ?_
          refine gl_istore_3 (pc := 60) C dX3_bestCar_60 ?_
          refine gl_iload_6 (pc := 61) C dX3_bestCar_61 ?_
          refine gl_istore_4 (pc := 63) C dX3_bestCar_63 ?_
          first | with_reducible refine gl_iincN_5 (pc := 65) gl_i1 C dX3_bestCar_65 ?_ | refine gl_iinc_5 (pc := 65) C dX3_bestCar_65 (gl_inc1 _) ?_
          refine gl_goto (pc := 68) 9 C dX3_bestCar_68 (by decide) ?_
          exact gl_on (ih (trivial)) (gl_le_c (rfl) (gl_le_c (rfl) (gl_le_c (rfl) (gl_le_c (congrArg Value.int (by grind [sp_best])) (gl_le_c (congrArg Value.int (by grind [sp_best])) (gl_le_c (rfl) (gl_le_o (gl_le_n)))))))) (rfl)
    · skip
      replace h29 := gl_bz.mp h29
      refine gl_goto (pc := 32) 65 C dX3_bestCar_32 (by decide) ?_
      first | with_reducible refine gl_iincN_5 (pc := 65) gl_i1 C dX3_bestCar_65 ?_ | refine gl_iinc_5 (pc := 65) C dX3_bestCar_65 (gl_inc1 _) ?_
      refine gl_goto (pc := 68) 9 C dX3_bestCar_68 (by decide) ?_
      exact gl_on (ih (trivial)) (gl_le_c (rfl) (gl_le_c (rfl) (gl_le_c (rfl) (gl_le_c (congrArg Value.int (by grind [sp_best])) (gl_le_c (congrArg Value.int (by grind [sp_best])) (gl_le_c (rfl) (gl_le_o (gl_le_n)))))))) (rfl)
