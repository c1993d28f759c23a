theorem fX0_has_36 : gl_fl wsX0_has RX0 36 0 0 := ⟨RX0, TX0, 9, RX0, rfl, by decide, by decide +kernel, by decide +kernel, rfl⟩
theorem fX0_rides_18 : gl_fl wsX0_rides RX0 18 0 3 := ⟨RX0, TX0, 9, RX0, rfl, by decide, by decide +kernel, by decide +kernel, rfl⟩
theorem fX0_rides_21 : gl_fl wsX0_rides RX0 21 0 4 := ⟨RX0, TX0, 9, RX0, rfl, by decide, by decide +kernel, by decide +kernel, rfl⟩
theorem fX0_waitsFor_18 : gl_fl wsX0_waitsFor RX0 18 0 3 := ⟨RX0, TX0, 9, RX0, rfl, by decide, by decide +kernel, by decide +kernel, rfl⟩
theorem fX0_waitsFor_21 : gl_fl wsX0_waitsFor RX0 21 0 4 := ⟨RX0, TX0, 9, RX0, rfl, by decide, by decide +kernel, by decide +kernel, rfl⟩
theorem fX0_numberIn_18 : gl_fl wsX0_numberIn RX0 18 0 3 := ⟨RX0, TX0, 9, RX0, rfl, by decide, by decide +kernel, by decide +kernel, rfl⟩
theorem fX0_numberIn_36 : gl_fl wsX0_numberIn RX0 36 0 0 := ⟨RX0, TX0, 9, RX0, rfl, by decide, by decide +kernel, by decide +kernel, rfl⟩
theorem fX0_numberOf_18 : gl_fl wsX0_numberOf RX0 18 0 3 := ⟨RX0, TX0, 9, RX0, rfl, by decide, by decide +kernel, by decide +kernel, rfl⟩
theorem fX0_numberOf_21 : gl_fl wsX0_numberOf RX0 21 0 4 := ⟨RX0, TX0, 9, RX0, rfl, by decide, by decide +kernel, by decide +kernel, rfl⟩
theorem fX0_numberOf_36 : gl_fl wsX0_numberOf RX0 36 0 0 := ⟨RX0, TX0, 9, RX0, rfl, by decide, by decide +kernel, by decide +kernel, rfl⟩
theorem fX0_stopsOf_9 : gl_fl wsX0_stopsOf RX0 9 0 1 := ⟨RX0, TX0, 9, RX0, rfl, by decide, by decide +kernel, by decide +kernel, rfl⟩
theorem fX0_stopsOf_15 : gl_fl wsX0_stopsOf RX0 15 0 2 := ⟨RX0, TX0, 9, RX0, rfl, by decide, by decide +kernel, by decide +kernel, rfl⟩
theorem fX0_stopsOf_36 : gl_fl wsX0_stopsOf RX0 36 0 0 := ⟨RX0, TX0, 9, RX0, rfl, by decide, by decide +kernel, by decide +kernel, rfl⟩
theorem fX0_isInGroup_18 : gl_fl wsX0_isInGroup RX0 18 0 3 := ⟨RX0, TX0, 9, RX0, rfl, by decide, by decide +kernel, by decide +kernel, rfl⟩
theorem fX0_sameGroup_9 : gl_fl wsX0_sameGroup RX0 9 0 1 := ⟨RX0, TX0, 9, RX0, rfl, by decide, by decide +kernel, by decide +kernel, rfl⟩
theorem fX0_sameGroup_15 : gl_fl wsX0_sameGroup RX0 15 0 2 := ⟨RX0, TX0, 9, RX0, rfl, by decide, by decide +kernel, by decide +kernel, rfl⟩
set_option maxRecDepth 100000 in
set_option maxHeartbeats 4000000 in
theorem ctX0_has (F : gl_F) (M : Nat → Int32) (x : Int32) : gl_Ct F LH yX0_has wsX0_has rmX0_has [.ref (gl_r F 9), .int x] M (some (.int (if sp_has x (M 2) then nI 1 else nI 0))) (M) := by
  refine gl_met (cc := cX0_has) (maxL := 2) (ret := some .boolean) [some (.ref (gl_r F 9)), some (.int x)] (by decide) rfl ok_LH (by simp [Value.category]) (Nat.le_of_ble_eq_true rfl) rfl (fun V hV C => ?_)
  subst hV
  refine gl_iload_1 C dX0_has_0 ?_
  refine gl_iflt 16 C dX0_has_1 (by decide) (fun h1 => ?_) (fun h1 => ?_)
  · skip
    refine gl_iconst (nI 0) C dX0_has_16 (by decide) ?_
    exact gl_zret C dX0_has_17 (by rfl) (by simp [*]) (rfl)
  · skip
    refine gl_iload_1 C dX0_has_4 ?_
    refine gl_aload_0 C dX0_has_5 ?_
    refine gl_getI C dX0_has_6 fX0_has_36 rfl rfl ?_
    refine gl_icmp_ge 16 C dX0_has_9 (by decide) (fun h9 => ?_) (fun h9 => ?_)
    · skip
      refine gl_iconst (nI 0) C dX0_has_16 (by decide) ?_
      exact gl_zret C dX0_has_17 (by rfl) (by simp [*]) (rfl)
    · skip
      refine gl_iconst (nI 1) C dX0_has_12 (by decide) ?_
      refine gl_goto 17 C dX0_has_13 (by decide) ?_
      exact gl_zret C dX0_has_17 (by rfl) (by simp [*]) (rfl)
set_option maxRecDepth 100000 in
set_option maxHeartbeats 4000000 in
theorem ctX0_rides (F : gl_F) (M : Nat → Int32) (k : Nat) (hk : k < 40) (c : Int32) : gl_Ct F LH yX0_rides wsX0_rides rmX0_rides [.ref (gl_r F 9), .int (nI k), .int c] M (some (.int (if sp_rd M k c then nI 1 else nI 0))) (M) := by
  refine gl_met (cc := cX0_rides) (maxL := 3) (ret := some .boolean) [some (.ref (gl_r F 9)), some (.int (nI k)), some (.int c)] (by decide) rfl ok_LH (by simp [Value.category]) (Nat.le_of_ble_eq_true rfl) rfl (fun V hV C => ?_)
  subst hV
  refine gl_aload_0 C dX0_rides_0 ?_
  refine gl_getR C dX0_rides_1 fX0_rides_18 rfl rfl ?_
  refine gl_iload_1 C dX0_rides_4 ?_
  refine gl_iald _ C dX0_rides_5 rfl rfl (by omega) ?_
  refine gl_iconst (nI 2) C dX0_rides_6 (by decide) ?_
  refine gl_icmp_ne 24 C dX0_rides_7 (by decide) (fun h7 => ?_) (fun h7 => ?_)
  · skip
    refine gl_iconst (nI 0) C dX0_rides_24 (by decide) ?_
    exact gl_zret C dX0_rides_25 (by rfl) (by simp [*]) (rfl)
  · skip
    refine gl_aload_0 C dX0_rides_10 ?_
    refine gl_getR C dX0_rides_11 fX0_rides_21 rfl rfl ?_
    refine gl_iload_1 C dX0_rides_14 ?_
    refine gl_iald _ C dX0_rides_15 rfl rfl (by omega) ?_
    refine gl_iload_2 C dX0_rides_16 ?_
    refine gl_icmp_ne 24 C dX0_rides_17 (by decide) (fun h17 => ?_) (fun h17 => ?_)
    · skip
      refine gl_iconst (nI 0) C dX0_rides_24 (by decide) ?_
      exact gl_zret C dX0_rides_25 (by rfl) (by simp [*]) (rfl)
    · skip
      refine gl_iconst (nI 1) C dX0_rides_20 (by decide) ?_
      refine gl_goto 25 C dX0_rides_21 (by decide) ?_
      exact gl_zret C dX0_rides_25 (by rfl) (by simp [*]) (rfl)
set_option maxRecDepth 100000 in
set_option maxHeartbeats 4000000 in
theorem ctX0_waitsFor (F : gl_F) (M : Nat → Int32) (k : Nat) (hk : k < 40) (c : Int32) : gl_Ct F LH yX0_waitsFor wsX0_waitsFor rmX0_waitsFor [.ref (gl_r F 9), .int (nI k), .int c] M (some (.int (if sp_wt M k c then nI 1 else nI 0))) (M) := by
  refine gl_met (cc := cX0_waitsFor) (maxL := 3) (ret := some .boolean) [some (.ref (gl_r F 9)), some (.int (nI k)), some (.int c)] (by decide) rfl ok_LH (by simp [Value.category]) (Nat.le_of_ble_eq_true rfl) rfl (fun V hV C => ?_)
  subst hV
  refine gl_aload_0 C dX0_waitsFor_0 ?_
  refine gl_getR C dX0_waitsFor_1 fX0_waitsFor_18 rfl rfl ?_
  refine gl_iload_1 C dX0_waitsFor_4 ?_
  refine gl_iald _ C dX0_waitsFor_5 rfl rfl (by omega) ?_
  refine gl_iconst (nI 1) C dX0_waitsFor_6 (by decide) ?_
  refine gl_icmp_ne 24 C dX0_waitsFor_7 (by decide) (fun h7 => ?_) (fun h7 => ?_)
  · skip
    refine gl_iconst (nI 0) C dX0_waitsFor_24 (by decide) ?_
    exact gl_zret C dX0_waitsFor_25 (by rfl) (by simp [*]) (rfl)
  · skip
    refine gl_aload_0 C dX0_waitsFor_10 ?_
    refine gl_getR C dX0_waitsFor_11 fX0_waitsFor_21 rfl rfl ?_
    refine gl_iload_1 C dX0_waitsFor_14 ?_
    refine gl_iald _ C dX0_waitsFor_15 rfl rfl (by omega) ?_
    refine gl_iload_2 C dX0_waitsFor_16 ?_
    refine gl_icmp_ne 24 C dX0_waitsFor_17 (by decide) (fun h17 => ?_) (fun h17 => ?_)
    · skip
      refine gl_iconst (nI 0) C dX0_waitsFor_24 (by decide) ?_
      exact gl_zret C dX0_waitsFor_25 (by rfl) (by simp [*]) (rfl)
    · skip
      refine gl_iconst (nI 1) C dX0_waitsFor_20 (by decide) ?_
      refine gl_goto 25 C dX0_waitsFor_21 (by decide) ?_
      exact gl_zret C dX0_waitsFor_25 (by rfl) (by simp [*]) (rfl)
set_option maxRecDepth 100000 in
set_option maxHeartbeats 4000000 in
theorem ctX0_numberIn (F : gl_F) {n : Nat} (hn40 : n ≤ 40) {M : Nat → Int32} (hn : M 2 = nI n) (is : Int32) : gl_Ct F LH yX0_numberIn wsX0_numberIn rmX0_numberIn [.ref (gl_r F 9), .int is] M (some (.int (sp_in M is n))) (M) := by
  refine gl_met (cc := cX0_numberIn) (maxL := 4) (ret := some .int) [some (.ref (gl_r F 9)), some (.int is), none, none] (by decide) rfl ok_LH (by simp [Value.category]) (Nat.le_of_ble_eq_true rfl) rfl (fun V hV C => ?_)
  subst hV
  refine gl_iconst (nI 0) C dX0_numberIn_0 (by decide) ?_
  refine gl_istore_2 C dX0_numberIn_1 ?_
  refine gl_iconst (nI 0) C dX0_numberIn_2 (by decide) ?_
  refine gl_istore_3 C dX0_numberIn_3 ?_
  refine gl_loop (n := n) (fun k => [some (.ref (gl_r V.1 9)), some (.int is), some (.int (sp_in M is k)), some (.int (nI k))]) (fun k => M) (fun k => True) 0 (Nat.zero_le _) (trivial) (gl_le_c (rfl) (gl_le_c (rfl) (gl_le_c (rfl) (gl_le_c (rfl) (gl_le_n))))) (rfl) (fun hI => ?_) (fun k hk hI ih => ?_)
  · skip
    refine gl_iload_3 C dX0_numberIn_4 ?_
    refine gl_aload_0 C dX0_numberIn_5 ?_
    refine gl_getI C dX0_numberIn_6 fX0_numberIn_36 rfl rfl ?_
    refine gl_top hn ?_
    refine gl_icmp_ge 31 C dX0_numberIn_9 (by decide) (fun h9 => ?_) (fun h9 => absurd h9 (gl_xge))
    refine gl_iload_2 C dX0_numberIn_31 ?_
    exact gl_iret C dX0_numberIn_32 (rfl) (rfl)
  · skip
    refine gl_iload_3 C dX0_numberIn_4 ?_
    refine gl_aload_0 C dX0_numberIn_5 ?_
    refine gl_getI C dX0_numberIn_6 fX0_numberIn_36 rfl rfl ?_
    refine gl_top hn ?_
    refine gl_icmp_ge 31 C dX0_numberIn_9 (by decide) (fun h9 => absurd h9 (nI_ge hk (by omega))) (fun h9 => ?_)
    refine gl_aload_0 C dX0_numberIn_12 ?_
    refine gl_getR C dX0_numberIn_13 fX0_numberIn_18 rfl rfl ?_
    refine gl_iload_3 C dX0_numberIn_16 ?_
    refine gl_iald _ C dX0_numberIn_17 rfl rfl (by omega) ?_
    refine gl_iload_1 C dX0_numberIn_18 ?_
    refine gl_icmp_ne 25 C dX0_numberIn_19 (by decide) (fun h19 => ?_) (fun h19 => ?_)
    · skip
      first | refine gl_iincN_3 1 C dX0_numberIn_25 ?_ | refine gl_iinc_3 C dX0_numberIn_25 (gl_inc1 _) ?_
      refine gl_goto 4 C dX0_numberIn_28 (by decide) ?_
      exact gl_on (ih (trivial)) (gl_le_c (rfl) (gl_le_c (rfl) (gl_le_c (congrArg Value.int (by simp [sp_in, *])) (gl_le_c (rfl) (gl_le_n))))) (rfl)
    · skip
      first | refine gl_iincN_2 1 C dX0_numberIn_22 ?_ | refine gl_iinc_2 C dX0_numberIn_22 (gl_inc1 _) ?_
      first | refine gl_iincN_3 1 C dX0_numberIn_25 ?_ | refine gl_iinc_3 C dX0_numberIn_25 (gl_inc1 _) ?_
      refine gl_goto 4 C dX0_numberIn_28 (by decide) ?_
      exact gl_on (ih (trivial)) (gl_le_c (rfl) (gl_le_c (rfl) (gl_le_c (congrArg Value.int (by simp [sp_in, *])) (gl_le_c (rfl) (gl_le_n))))) (rfl)
set_option maxRecDepth 100000 in
set_option maxHeartbeats 4000000 in
theorem ctX0_numberOf (F : gl_F) {n : Nat} (hn40 : n ≤ 40) {M : Nat → Int32} (hn : M 2 = nI n) (c is : Int32) : gl_Ct F LH yX0_numberOf wsX0_numberOf rmX0_numberOf [.ref (gl_r F 9), .int c, .int is] M (some (.int (sp_of M c is n))) (M) := by
  refine gl_met (cc := cX0_numberOf) (maxL := 5) (ret := some .int) [some (.ref (gl_r F 9)), some (.int c), some (.int is), none, none] (by decide) rfl ok_LH (by simp [Value.category]) (Nat.le_of_ble_eq_true rfl) rfl (fun V hV C => ?_)
  subst hV
  refine gl_iconst (nI 0) C dX0_numberOf_0 (by decide) ?_
  refine gl_istore_3 C dX0_numberOf_1 ?_
  refine gl_iconst (nI 0) C dX0_numberOf_2 (by decide) ?_
  refine gl_istore_4 C dX0_numberOf_3 ?_
  refine gl_loop (n := n) (fun k => [some (.ref (gl_r V.1 9)), some (.int c), some (.int is), some (.int (sp_of M c is k)), some (.int (nI k))]) (fun k => M) (fun k => True) 0 (Nat.zero_le _) (trivial) (gl_le_c (rfl) (gl_le_c (rfl) (gl_le_c (rfl) (gl_le_c (rfl) (gl_le_c (rfl) (gl_le_n)))))) (rfl) (fun hI => ?_) (fun k hk hI ih => ?_)
  · skip
    refine gl_iload_4 C dX0_numberOf_5 ?_
    refine gl_aload_0 C dX0_numberOf_7 ?_
    refine gl_getI C dX0_numberOf_8 fX0_numberOf_36 rfl rfl ?_
    refine gl_top hn ?_
    refine gl_icmp_ge 45 C dX0_numberOf_11 (by decide) (fun h11 => ?_) (fun h11 => absurd h11 (gl_xge))
    refine gl_iload_3 C dX0_numberOf_45 ?_
    exact gl_iret C dX0_numberOf_46 (rfl) (rfl)
  · skip
    refine gl_iload_4 C dX0_numberOf_5 ?_
    refine gl_aload_0 C dX0_numberOf_7 ?_
    refine gl_getI C dX0_numberOf_8 fX0_numberOf_36 rfl rfl ?_
    refine gl_top hn ?_
    refine gl_icmp_ge 45 C dX0_numberOf_11 (by decide) (fun h11 => absurd h11 (nI_ge hk (by omega))) (fun h11 => ?_)
    refine gl_aload_0 C dX0_numberOf_14 ?_
    refine gl_getR C dX0_numberOf_15 fX0_numberOf_18 rfl rfl ?_
    refine gl_iload_4 C dX0_numberOf_18 ?_
    refine gl_iald _ C dX0_numberOf_20 rfl rfl (by omega) ?_
    refine gl_iload_2 C dX0_numberOf_21 ?_
    refine gl_icmp_ne 39 C dX0_numberOf_22 (by decide) (fun h22 => ?_) (fun h22 => ?_)
    · skip
      first | refine gl_iincN_4 1 C dX0_numberOf_39 ?_ | refine gl_iinc_4 C dX0_numberOf_39 (gl_inc1 _) ?_
      refine gl_goto 5 C dX0_numberOf_42 (by decide) ?_
      exact gl_on (ih (trivial)) (gl_le_c (rfl) (gl_le_c (rfl) (gl_le_c (rfl) (gl_le_c (congrArg Value.int (by simp [sp_of, *])) (gl_le_c (rfl) (gl_le_n)))))) (rfl)
    · skip
      refine gl_aload_0 C dX0_numberOf_25 ?_
      refine gl_getR C dX0_numberOf_26 fX0_numberOf_21 rfl rfl ?_
      refine gl_iload_4 C dX0_numberOf_29 ?_
      refine gl_iald _ C dX0_numberOf_31 rfl rfl (by omega) ?_
      refine gl_iload_1 C dX0_numberOf_32 ?_
      refine gl_icmp_ne 39 C dX0_numberOf_33 (by decide) (fun h33 => ?_) (fun h33 => ?_)
      · skip
        first | refine gl_iincN_4 1 C dX0_numberOf_39 ?_ | refine gl_iinc_4 C dX0_numberOf_39 (gl_inc1 _) ?_
        refine gl_goto 5 C dX0_numberOf_42 (by decide) ?_
        exact gl_on (ih (trivial)) (gl_le_c (rfl) (gl_le_c (rfl) (gl_le_c (rfl) (gl_le_c (congrArg Value.int (by simp [sp_of, *])) (gl_le_c (rfl) (gl_le_n)))))) (rfl)
      · skip
        first | refine gl_iincN_3 1 C dX0_numberOf_36 ?_ | refine gl_iinc_3 C dX0_numberOf_36 (gl_inc1 _) ?_
        first | refine gl_iincN_4 1 C dX0_numberOf_39 ?_ | refine gl_iinc_4 C dX0_numberOf_39 (gl_inc1 _) ?_
        refine gl_goto 5 C dX0_numberOf_42 (by decide) ?_
        exact gl_on (ih (trivial)) (gl_le_c (rfl) (gl_le_c (rfl) (gl_le_c (rfl) (gl_le_c (congrArg Value.int (by simp [sp_of, *])) (gl_le_c (rfl) (gl_le_n)))))) (rfl)
set_option maxRecDepth 100000 in
set_option maxHeartbeats 4000000 in
theorem ctX0_numberWith (F : gl_F) {n : Nat} (hn40 : n ≤ 40) {M : Nat → Int32} (hn : M 2 = nI n) (c : Int32) : gl_Ct F LH yX0_numberWith wsX0_numberWith rmX0_numberWith [.ref (gl_r F 9), .int c] M (some (.int (sp_with M c n))) (M) := by
  refine gl_met (cc := cX0_numberWith) (maxL := 2) (ret := some .int) [some (.ref (gl_r F 9)), some (.int c)] (by decide) rfl ok_LH (by simp [Value.category]) (Nat.le_of_ble_eq_true rfl) rfl (fun V hV C => ?_)
  subst hV
  refine gl_aload_0 C dX0_numberWith_0 ?_
  refine gl_iload_1 C dX0_numberWith_1 ?_
  refine gl_iconst (nI 1) C dX0_numberWith_2 (by decide) ?_
  refine gl_callVi (ctX0_numberOf V.1 hn40 hn c (nI 1)) C dX0_numberWith_3 gX0_numberWith_X0_numberOf rfl hdX0_numberOf ⟨rfl, rfl, Nat.le_of_ble_eq_true rfl, Nat.le_of_ble_eq_true rfl⟩ rfl (Nat.le_of_ble_eq_true rfl) rfl rfl rfl ?_
  refine gl_aload_0 C dX0_numberWith_6 ?_
  refine gl_iload_1 C dX0_numberWith_7 ?_
  refine gl_iconst (nI 2) C dX0_numberWith_8 (by decide) ?_
  refine gl_callVi (ctX0_numberOf V.1 hn40 hn c (nI 2)) C dX0_numberWith_9 gX0_numberWith_X0_numberOf rfl hdX0_numberOf ⟨rfl, rfl, Nat.le_of_ble_eq_true rfl, Nat.le_of_ble_eq_true rfl⟩ rfl (Nat.le_of_ble_eq_true rfl) rfl rfl rfl ?_
  first | refine gl_iaddN C dX0_numberWith_12 ?_ | refine gl_iadd C dX0_numberWith_12 ?_
  exact gl_iret C dX0_numberWith_13 (rfl) (rfl)
set_option maxRecDepth 100000 in
set_option maxHeartbeats 4000000 in
theorem ctX0_stopsOf (F : gl_F) {n : Nat} (hn40 : n ≤ 40) {M : Nat → Int32} (hn : M 2 = nI n) (c : Int32) : gl_Ct F LH yX0_stopsOf wsX0_stopsOf rmX0_stopsOf [.ref (gl_r F 9), .int c] M (some (.int (sp_stops M c n))) (M) := by
  refine gl_met (cc := cX0_stopsOf) (maxL := 4) (ret := some .int) [some (.ref (gl_r F 9)), some (.int c), none, none] (by decide) rfl ok_LH (by simp [Value.category]) (Nat.le_of_ble_eq_true rfl) rfl (fun V hV C => ?_)
  subst hV
  refine gl_iconst (nI 0) C dX0_stopsOf_0 (by decide) ?_
  refine gl_istore_2 C dX0_stopsOf_1 ?_
  refine gl_iconst (nI 0) C dX0_stopsOf_2 (by decide) ?_
  refine gl_istore_3 C dX0_stopsOf_3 ?_
  refine gl_loop (n := n) (fun k => [some (.ref (gl_r V.1 9)), some (.int c), some (.int (sp_stops M c k)), some (.int (nI k))]) (fun k => M) (fun k => True) 0 (Nat.zero_le _) (trivial) (gl_le_c (rfl) (gl_le_c (rfl) (gl_le_c (rfl) (gl_le_c (rfl) (gl_le_n))))) (rfl) (fun hI => ?_) (fun k hk hI ih => ?_)
  · skip
    refine gl_iload_3 C dX0_stopsOf_4 ?_
    refine gl_aload_0 C dX0_stopsOf_5 ?_
    refine gl_getI C dX0_stopsOf_6 fX0_stopsOf_36 rfl rfl ?_
    refine gl_top hn ?_
    refine gl_icmp_ge 70 C dX0_stopsOf_9 (by decide) (fun h9 => ?_) (fun h9 => absurd h9 (gl_xge))
    refine gl_iload_2 C dX0_stopsOf_70 ?_
    exact gl_iret C dX0_stopsOf_71 (rfl) (rfl)
  · skip
    refine gl_iload_3 C dX0_stopsOf_4 ?_
    refine gl_aload_0 C dX0_stopsOf_5 ?_
    refine gl_getI C dX0_stopsOf_6 fX0_stopsOf_36 rfl rfl ?_
    refine gl_top hn ?_
    refine gl_icmp_ge 70 C dX0_stopsOf_9 (by decide) (fun h9 => absurd h9 (nI_ge hk (by omega))) (fun h9 => ?_)
    refine gl_aload_0 C dX0_stopsOf_12 ?_
    refine gl_iload_3 C dX0_stopsOf_13 ?_
    refine gl_iload_1 C dX0_stopsOf_14 ?_
    refine gl_callVi (ctX0_waitsFor V.1 M k (by omega) c) C dX0_stopsOf_15 gX0_stopsOf_X0_waitsFor rfl hdX0_waitsFor ⟨rfl, rfl, Nat.le_of_ble_eq_true rfl, Nat.le_of_ble_eq_true rfl⟩ rfl (Nat.le_of_ble_eq_true rfl) rfl rfl rfl ?_
    refine gl_ifeq 44 C dX0_stopsOf_18 (by decide) (fun h18 => ?_) (fun h18 => ?_)
    · skip
      replace h18 := gl_bz.mp h18
      refine gl_aload_0 C dX0_stopsOf_44 ?_
      refine gl_iload_3 C dX0_stopsOf_45 ?_
      refine gl_iload_1 C dX0_stopsOf_46 ?_
      refine gl_callVi (ctX0_rides V.1 M k (by omega) c) C dX0_stopsOf_47 gX0_stopsOf_X0_rides rfl hdX0_rides ⟨rfl, rfl, Nat.le_of_ble_eq_true rfl, Nat.le_of_ble_eq_true rfl⟩ rfl (Nat.le_of_ble_eq_true rfl) rfl rfl rfl ?_
      refine gl_ifeq 64 C dX0_stopsOf_50 (by decide) (fun h50 => ?_) (fun h50 => ?_)
      · skip
        replace h50 := gl_bz.mp h50
        first | refine gl_iincN_3 1 C dX0_stopsOf_64 ?_ | refine gl_iinc_3 C dX0_stopsOf_64 (gl_inc1 _) ?_
        refine gl_goto 4 C dX0_stopsOf_67 (by decide) ?_
        exact gl_on (ih (trivial)) (gl_le_c (rfl) (gl_le_c (rfl) (gl_le_c (congrArg Value.int (by simp only [sp_stops, if_pos, if_neg, *]; try simp [*])) (gl_le_c (rfl) (gl_le_n))))) (rfl)
      · skip
        replace h50 := gl_bn.mp h50
        refine gl_iload_2 C dX0_stopsOf_53 ?_
        refine gl_iconst (nI 1) C dX0_stopsOf_54 (by decide) ?_
        refine gl_aload_0 C dX0_stopsOf_55 ?_
        refine gl_getR C dX0_stopsOf_56 fX0_stopsOf_15 rfl rfl ?_
        refine gl_iload_3 C dX0_stopsOf_59 ?_
        refine gl_iald _ C dX0_stopsOf_60 rfl rfl (by omega) ?_
        refine gl_ishl C dX0_stopsOf_61 ?_
        refine gl_ior C dX0_stopsOf_62 ?_
        refine gl_istore_2 C dX0_stopsOf_63 ?_
        first | refine gl_iincN_3 1 C dX0_stopsOf_64 ?_ | refine gl_iinc_3 C dX0_stopsOf_64 (gl_inc1 _) ?_
        refine gl_goto 4 C dX0_stopsOf_67 (by decide) ?_
        exact gl_on (ih (trivial)) (gl_le_c (rfl) (gl_le_c (rfl) (gl_le_c (congrArg Value.int (by simp only [sp_stops, if_pos, if_neg, *]; try simp [*])) (gl_le_c (rfl) (gl_le_n))))) (rfl)
    · skip
      replace h18 := gl_bn.mp h18
      refine gl_iload_2 C dX0_stopsOf_21 ?_
      refine gl_iconst (nI 1) C dX0_stopsOf_22 (by decide) ?_
      refine gl_aload_0 C dX0_stopsOf_23 ?_
      refine gl_getR C dX0_stopsOf_24 fX0_stopsOf_9 rfl rfl ?_
      refine gl_iload_3 C dX0_stopsOf_27 ?_
      refine gl_iald _ C dX0_stopsOf_28 rfl rfl (by omega) ?_
      refine gl_ishl C dX0_stopsOf_29 ?_
      refine gl_iconst (nI 1) C dX0_stopsOf_30 (by decide) ?_
      refine gl_aload_0 C dX0_stopsOf_31 ?_
      refine gl_getR C dX0_stopsOf_32 fX0_stopsOf_15 rfl rfl ?_
      refine gl_iload_3 C dX0_stopsOf_35 ?_
      refine gl_iald _ C dX0_stopsOf_36 rfl rfl (by omega) ?_
      refine gl_ishl C dX0_stopsOf_37 ?_
      refine gl_ior C dX0_stopsOf_38 ?_
      refine gl_ior C dX0_stopsOf_39 ?_
      refine gl_istore_2 C dX0_stopsOf_40 ?_
      refine gl_goto 64 C dX0_stopsOf_41 (by decide) ?_
      first | refine gl_iincN_3 1 C dX0_stopsOf_64 ?_ | refine gl_iinc_3 C dX0_stopsOf_64 (gl_inc1 _) ?_
      refine gl_goto 4 C dX0_stopsOf_67 (by decide) ?_
      exact gl_on (ih (trivial)) (gl_le_c (rfl) (gl_le_c (rfl) (gl_le_c (congrArg Value.int (by simp only [sp_stops, if_pos, if_neg, *]; try simp [*])) (gl_le_c (rfl) (gl_le_n))))) (rfl)
set_option maxRecDepth 100000 in
set_option maxHeartbeats 4000000 in
theorem ctX0_isNearer (F : gl_F) (M : Nat → Int32) {a b fl : Int32} (ha : sp_fl a) (hb : sp_fl b) (hf : sp_fl fl) : gl_Ct F LH yX0_isNearer wsX0_isNearer rmX0_isNearer [.int a, .int b, .int fl] M (some (.int (if sp_near a b fl then nI 1 else nI 0))) (M) := by
  refine gl_met (cc := cX0_isNearer) (maxL := 5) (ret := some .boolean) [some (.int a), some (.int b), some (.int fl), none, none] (by decide) rfl ok_LH (by simp [Value.category]) (Nat.le_of_ble_eq_true rfl) rfl (fun V hV C => ?_)
  subst hV
  refine gl_iload_0 C dX0_isNearer_0 ?_
  refine gl_iload_2 C dX0_isNearer_1 ?_
  refine gl_isub C dX0_isNearer_2 ?_
  refine gl_abs C dX0_isNearer_3 (by decide +kernel) (by decide +kernel) (by decide +kernel) (by decide +kernel) ⟨Nat.le_of_ble_eq_true rfl, Nat.le_of_ble_eq_true rfl⟩ ?_
  refine gl_top (sp_far_abs ha hf) ?_
  refine gl_istore_3 C dX0_isNearer_6 ?_
  refine gl_iload_1 C dX0_isNearer_7 ?_
  refine gl_iload_2 C dX0_isNearer_8 ?_
  refine gl_isub C dX0_isNearer_9 ?_
  refine gl_abs C dX0_isNearer_10 (by decide +kernel) (by decide +kernel) (by decide +kernel) (by decide +kernel) ⟨Nat.le_of_ble_eq_true rfl, Nat.le_of_ble_eq_true rfl⟩ ?_
  refine gl_top (sp_far_abs hb hf) ?_
  refine gl_istore_4 C dX0_isNearer_13 ?_
  refine gl_iload_3 C dX0_isNearer_15 ?_
  refine gl_iload_4 C dX0_isNearer_16 ?_
  refine gl_icmp_lt 32 C dX0_isNearer_18 (by decide) (fun h18 => ?_) (fun h18 => ?_)
  · skip
    refine gl_iconst (nI 1) C dX0_isNearer_32 (by decide) ?_
    refine gl_goto 37 C dX0_isNearer_33 (by decide) ?_
    exact gl_zret C dX0_isNearer_37 (by rfl) (by simp [*]) (rfl)
  · skip
    refine gl_iload_3 C dX0_isNearer_21 ?_
    refine gl_iload_4 C dX0_isNearer_22 ?_
    refine gl_icmp_ne 36 C dX0_isNearer_24 (by decide) (fun h24 => ?_) (fun h24 => ?_)
    · skip
      refine gl_iconst (nI 0) C dX0_isNearer_36 (by decide) ?_
      exact gl_zret C dX0_isNearer_37 (by rfl) (by simp [*]) (rfl)
    · skip
      refine gl_iload_0 C dX0_isNearer_27 ?_
      refine gl_iload_1 C dX0_isNearer_28 ?_
      refine gl_icmp_ge 36 C dX0_isNearer_29 (by decide) (fun h29 => ?_) (fun h29 => ?_)
      · skip
        refine gl_iconst (nI 0) C dX0_isNearer_36 (by decide) ?_
        exact gl_zret C dX0_isNearer_37 (by rfl) (by simp [*]) (rfl)
      · skip
        refine gl_iconst (nI 1) C dX0_isNearer_32 (by decide) ?_
        refine gl_goto 37 C dX0_isNearer_33 (by decide) ?_
        exact gl_zret C dX0_isNearer_37 (by rfl) (by simp [*]) (rfl)
set_option maxRecDepth 100000 in
set_option maxHeartbeats 4000000 in
theorem ctX0_isInGroup (F : gl_F) (M : Nat → Int32) (k : Nat) (hk : k < 40) : gl_Ct F LH yX0_isInGroup wsX0_isInGroup rmX0_isInGroup [.ref (gl_r F 9), .int (nI k)] M (some (.int (if sp_open M k then nI 1 else nI 0))) (M) := by
  refine gl_met (cc := cX0_isInGroup) (maxL := 2) (ret := some .boolean) [some (.ref (gl_r F 9)), some (.int (nI k))] (by decide) rfl ok_LH (by simp [Value.category]) (Nat.le_of_ble_eq_true rfl) rfl (fun V hV C => ?_)
  subst hV
  refine gl_aload_0 C dX0_isInGroup_0 ?_
  refine gl_getR C dX0_isInGroup_1 fX0_isInGroup_18 rfl rfl ?_
  refine gl_iload_1 C dX0_isInGroup_4 ?_
  refine gl_iald _ C dX0_isInGroup_5 rfl rfl (by omega) ?_
  refine gl_ifeq 19 C dX0_isInGroup_6 (by decide) (fun h6 => ?_) (fun h6 => ?_)
  · skip
    refine gl_iconst (nI 1) C dX0_isInGroup_19 (by decide) ?_
    refine gl_goto 24 C dX0_isInGroup_20 (by decide) ?_
    exact gl_zret C dX0_isInGroup_24 (by rfl) (by simp [*]) (rfl)
  · skip
    refine gl_aload_0 C dX0_isInGroup_9 ?_
    refine gl_getR C dX0_isInGroup_10 fX0_isInGroup_18 rfl rfl ?_
    refine gl_iload_1 C dX0_isInGroup_13 ?_
    refine gl_iald _ C dX0_isInGroup_14 rfl rfl (by omega) ?_
    refine gl_iconst (nI 1) C dX0_isInGroup_15 (by decide) ?_
    refine gl_icmp_ne 23 C dX0_isInGroup_16 (by decide) (fun h16 => ?_) (fun h16 => ?_)
    · skip
      refine gl_iconst (nI 0) C dX0_isInGroup_23 (by decide) ?_
      exact gl_zret C dX0_isInGroup_24 (by rfl) (by simp [*]) (rfl)
    · skip
      refine gl_iconst (nI 1) C dX0_isInGroup_19 (by decide) ?_
      refine gl_goto 24 C dX0_isInGroup_20 (by decide) ?_
      exact gl_zret C dX0_isInGroup_24 (by rfl) (by simp [*]) (rfl)
set_option maxRecDepth 100000 in
set_option maxHeartbeats 4000000 in
theorem ctX0_sameGroup (F : gl_F) (M : Nat → Int32) (j k : Nat) (hj : j < 40) (hk : k < 40) : gl_Ct F LH yX0_sameGroup wsX0_sameGroup rmX0_sameGroup [.ref (gl_r F 9), .int (nI j), .int (nI k)] M (some (.int (if sp_same M j k then nI 1 else nI 0))) (M) := by
  refine gl_met (cc := cX0_sameGroup) (maxL := 3) (ret := some .boolean) [some (.ref (gl_r F 9)), some (.int (nI j)), some (.int (nI k))] (by decide) rfl ok_LH (by simp [Value.category]) (Nat.le_of_ble_eq_true rfl) rfl (fun V hV C => ?_)
  subst hV
  refine gl_aload_0 C dX0_sameGroup_0 ?_
  refine gl_iload_1 C dX0_sameGroup_1 ?_
  refine gl_callVi (ctX0_isInGroup V.1 M j hj) C dX0_sameGroup_2 gX0_sameGroup_X0_isInGroup rfl hdX0_isInGroup ⟨rfl, rfl, Nat.le_of_ble_eq_true rfl, Nat.le_of_ble_eq_true rfl⟩ rfl (Nat.le_of_ble_eq_true rfl) rfl rfl rfl ?_
  refine gl_ifeq 50 C dX0_sameGroup_5 (by decide) (fun h5 => ?_) (fun h5 => ?_)
  · skip
    replace h5 := gl_bz.mp h5
    refine gl_iconst (nI 0) C dX0_sameGroup_50 (by decide) ?_
    exact gl_zret C dX0_sameGroup_51 (by rfl) (by simp only [sp_same, *]; try simp [*]) (rfl)
  · skip
    replace h5 := gl_bn.mp h5
    refine gl_aload_0 C dX0_sameGroup_8 ?_
    refine gl_iload_2 C dX0_sameGroup_9 ?_
    refine gl_callVi (ctX0_isInGroup V.1 M k hk) C dX0_sameGroup_10 gX0_sameGroup_X0_isInGroup rfl hdX0_isInGroup ⟨rfl, rfl, Nat.le_of_ble_eq_true rfl, Nat.le_of_ble_eq_true rfl⟩ rfl (Nat.le_of_ble_eq_true rfl) rfl rfl rfl ?_
    refine gl_ifeq 50 C dX0_sameGroup_13 (by decide) (fun h13 => ?_) (fun h13 => ?_)
    · skip
      replace h13 := gl_bz.mp h13
      refine gl_iconst (nI 0) C dX0_sameGroup_50 (by decide) ?_
      exact gl_zret C dX0_sameGroup_51 (by rfl) (by simp only [sp_same, *]; try simp [*]) (rfl)
    · skip
      replace h13 := gl_bn.mp h13
      refine gl_aload_0 C dX0_sameGroup_16 ?_
      refine gl_getR C dX0_sameGroup_17 fX0_sameGroup_9 rfl rfl ?_
      refine gl_iload_1 C dX0_sameGroup_20 ?_
      refine gl_iald _ C dX0_sameGroup_21 rfl rfl (by omega) ?_
      refine gl_aload_0 C dX0_sameGroup_22 ?_
      refine gl_getR C dX0_sameGroup_23 fX0_sameGroup_9 rfl rfl ?_
      refine gl_iload_2 C dX0_sameGroup_26 ?_
      refine gl_iald _ C dX0_sameGroup_27 rfl rfl (by omega) ?_
      refine gl_icmp_ne 50 C dX0_sameGroup_28 (by decide) (fun h28 => ?_) (fun h28 => ?_)
      · skip
        refine gl_iconst (nI 0) C dX0_sameGroup_50 (by decide) ?_
        exact gl_zret C dX0_sameGroup_51 (by rfl) (by simp only [sp_same, *]; try simp [*]) (rfl)
      · skip
        refine gl_aload_0 C dX0_sameGroup_31 ?_
        refine gl_getR C dX0_sameGroup_32 fX0_sameGroup_15 rfl rfl ?_
        refine gl_iload_1 C dX0_sameGroup_35 ?_
        refine gl_iald _ C dX0_sameGroup_36 rfl rfl (by omega) ?_
        refine gl_aload_0 C dX0_sameGroup_37 ?_
        refine gl_getR C dX0_sameGroup_38 fX0_sameGroup_15 rfl rfl ?_
        refine gl_iload_2 C dX0_sameGroup_41 ?_
        refine gl_iald _ C dX0_sameGroup_42 rfl rfl (by omega) ?_
        refine gl_icmp_ne 50 C dX0_sameGroup_43 (by decide) (fun h43 => ?_) (fun h43 => ?_)
        · skip
          refine gl_iconst (nI 0) C dX0_sameGroup_50 (by decide) ?_
          exact gl_zret C dX0_sameGroup_51 (by rfl) (by simp only [sp_same, *]; try simp [*]) (rfl)
        · skip
          refine gl_iconst (nI 1) C dX0_sameGroup_46 (by decide) ?_
          refine gl_goto 51 C dX0_sameGroup_47 (by decide) ?_
          exact gl_zret C dX0_sameGroup_51 (by rfl) (by simp only [sp_same, *]; try simp [*]) (rfl)
