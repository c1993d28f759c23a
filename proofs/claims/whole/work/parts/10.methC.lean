theorem fX5_isCar_7 : gl_fl wsX5_isCar RX5 7 5 0 := ⟨RX5, TX5, 5, RX5, rfl, by decide, by decide +kernel, by decide +kernel, rfl⟩
theorem fX5_isCaller_7 : gl_fl wsX5_isCaller RX5 7 5 0 := ⟨RX5, TX5, 5, RX5, rfl, by decide, by decide +kernel, by decide +kernel, rfl⟩
theorem fX5_ofCar_7 : gl_fl wsX5_ofCar RX5 7 5 0 := ⟨RX5, TX5, 5, RX5, rfl, by decide, by decide +kernel, by decide +kernel, rfl⟩
theorem fX5_putsCar_7 : gl_fl wsX5_putsCar RX5 7 5 0 := ⟨RX5, TX5, 5, RX5, rfl, by decide, by decide +kernel, by decide +kernel, rfl⟩
theorem fX5_ofCaller_7 : gl_fl wsX5_ofCaller RX5 7 5 0 := ⟨RX5, TX5, 5, RX5, rfl, by decide, by decide +kernel, by decide +kernel, rfl⟩
theorem fX5_puts_7 : gl_fl wsX5_puts RX5 7 5 0 := ⟨RX5, TX5, 5, RX5, rfl, by decide, by decide +kernel, by decide +kernel, rfl⟩
theorem fX5_hour_7 : gl_fl wsX5_hour RX5 7 5 0 := ⟨RX5, TX5, 5, RX5, rfl, by decide, by decide +kernel, by decide +kernel, rfl⟩
theorem fX5_isAwake_7 : gl_fl wsX5_isAwake RX5 7 5 0 := ⟨RX5, TX5, 5, RX5, rfl, by decide, by decide +kernel, by decide +kernel, rfl⟩
theorem fX5_many_7 : gl_fl wsX5_many RX5 7 5 0 := ⟨RX5, TX5, 5, RX5, rfl, by decide, by decide +kernel, by decide +kernel, rfl⟩
theorem fX5_inAll_7 : gl_fl wsX5_inAll RX5 7 5 0 := ⟨RX5, TX5, 5, RX5, rfl, by decide, by decide +kernel, by decide +kernel, rfl⟩
theorem fX5_stops_7 : gl_fl wsX5_stops RX5 7 5 0 := ⟨RX5, TX5, 5, RX5, rfl, by decide, by decide +kernel, by decide +kernel, rfl⟩
theorem fX5_best_7 : gl_fl wsX5_best RX5 7 5 0 := ⟨RX5, TX5, 5, RX5, rfl, by decide, by decide +kernel, by decide +kernel, rfl⟩
theorem fX5_aim_7 : gl_fl wsX5_aim RX5 7 5 0 := ⟨RX5, TX5, 5, RX5, rfl, by decide, by decide +kernel, by decide +kernel, rfl⟩
set_option maxRecDepth 100000 in
set_option maxHeartbeats 4000000 in
theorem ctX5_in (F : gl_F) (lay : List gl_Ce) (hok : gl_ok lay) (M : Nat → Int32) (v a b : Int32) : gl_Ct F lay yX5_in wsX5_in rmX5_in [.int v, .int a, .int b] M (some (.int (if sp_inr v a b then nI 1 else nI 0))) (M) := by
  refine gl_met (cc := cX5_in) (maxL := 3) (ret := some .boolean) [some (.int v), some (.int a), some (.int b)] (plainFor_of_name (by decide)) rfl hok (by simp [Value.category]) (Nat.le_of_ble_eq_true rfl) rfl (fun V hV C => ?_)
  subst hV
  refine gl_iload_0 (pc := 0) C dX5_in_0 ?_
  refine gl_iload_1 (pc := 1) C dX5_in_1 ?_
  refine gl_icmp_lt (pc := 2) 14 C dX5_in_2 (by decide) (fun h2 => ?_) (fun h2 => ?_)
  · skip
    refine gl_iconst (pc := 14) (nI 0) C dX5_in_14 (by decide) ?_
    exact gl_zret (pc := 15) C dX5_in_15 (by rfl) (by simp only [sp_inr]; simp [*]) (rfl)
  · skip
    refine gl_iload_0 (pc := 5) C dX5_in_5 ?_
    refine gl_iload_2 (pc := 6) C dX5_in_6 ?_
    refine gl_icmp_gt (pc := 7) 14 C dX5_in_7 (by decide) (fun h7 => ?_) (fun h7 => ?_)
    · skip
      refine gl_iconst (pc := 14) (nI 0) C dX5_in_14 (by decide) ?_
      exact gl_zret (pc := 15) C dX5_in_15 (by rfl) (by simp only [sp_inr]; simp [*]) (rfl)
    · skip
      refine gl_iconst (pc := 10) (nI 1) C dX5_in_10 (by decide) ?_
      refine gl_goto (pc := 11) 15 C dX5_in_11 (by decide) ?_
      exact gl_zret (pc := 15) C dX5_in_15 (by rfl) (by simp only [sp_inr]; simp [*]) (rfl)
set_option maxRecDepth 100000 in
set_option maxHeartbeats 4000000 in
theorem ctX5_isCar (F : gl_F) (M : Nat → Int32) (x : Int32) : gl_Ct F LM yX5_isCar wsX5_isCar rmX5_isCar [.ref (gl_r F 0), .int x] M (some (.int (if sp_has x (M 1) then nI 1 else nI 0))) (M) := by
  refine gl_met (cc := cX5_isCar) (maxL := 2) (ret := some .boolean) [some (.ref (gl_r F 0)), some (.int x)] (plainFor_of_name (by decide)) rfl ok_LM (by simp [Value.category]) (Nat.le_of_ble_eq_true rfl) rfl (fun V hV C => ?_)
  subst hV
  refine gl_iload_1 (pc := 0) C dX5_isCar_0 ?_
  refine gl_iflt (pc := 1) 18 C dX5_isCar_1 (by decide) (fun h1 => ?_) (fun h1 => ?_)
  · skip
    refine gl_iconst (pc := 18) (nI 0) C dX5_isCar_18 (by decide) ?_
    exact gl_zret (pc := 19) C dX5_isCar_19 (by rfl) (by simp [*]) (rfl)
  · skip
    refine gl_iload_1 (pc := 4) C dX5_isCar_4 ?_
    refine gl_aload_0 (pc := 5) C dX5_isCar_5 ?_
    refine gl_getR (pc := 6) C dX5_isCar_6 fX5_isCar_7 rfl rfl ?_
    refine gl_iconst (pc := 9) (nI 1) C dX5_isCar_9 (by decide) ?_
    refine gl_iald (pc := 10) _ C dX5_isCar_10 rfl rfl (by omega) ?_
    refine gl_icmp_ge (pc := 11) 18 C dX5_isCar_11 (by decide) (fun h11 => ?_) (fun h11 => ?_)
    · skip
      refine gl_iconst (pc := 18) (nI 0) C dX5_isCar_18 (by decide) ?_
      exact gl_zret (pc := 19) C dX5_isCar_19 (by rfl) (by simp [*]) (rfl)
    · skip
      refine gl_iconst (pc := 14) (nI 1) C dX5_isCar_14 (by decide) ?_
      refine gl_goto (pc := 15) 19 C dX5_isCar_15 (by decide) ?_
      exact gl_zret (pc := 19) C dX5_isCar_19 (by rfl) (by simp [*]) (rfl)
set_option maxRecDepth 100000 in
set_option maxHeartbeats 4000000 in
theorem ctX5_isCaller (F : gl_F) (M : Nat → Int32) (x : Int32) : gl_Ct F LM yX5_isCaller wsX5_isCaller rmX5_isCaller [.ref (gl_r F 0), .int x] M (some (.int (if sp_has x (M 2) then nI 1 else nI 0))) (M) := by
  refine gl_met (cc := cX5_isCaller) (maxL := 2) (ret := some .boolean) [some (.ref (gl_r F 0)), some (.int x)] (plainFor_of_name (by decide)) rfl ok_LM (by simp [Value.category]) (Nat.le_of_ble_eq_true rfl) rfl (fun V hV C => ?_)
  subst hV
  refine gl_iload_1 (pc := 0) C dX5_isCaller_0 ?_
  refine gl_iflt (pc := 1) 18 C dX5_isCaller_1 (by decide) (fun h1 => ?_) (fun h1 => ?_)
  · skip
    refine gl_iconst (pc := 18) (nI 0) C dX5_isCaller_18 (by decide) ?_
    exact gl_zret (pc := 19) C dX5_isCaller_19 (by rfl) (by simp [*]) (rfl)
  · skip
    refine gl_iload_1 (pc := 4) C dX5_isCaller_4 ?_
    refine gl_aload_0 (pc := 5) C dX5_isCaller_5 ?_
    refine gl_getR (pc := 6) C dX5_isCaller_6 fX5_isCaller_7 rfl rfl ?_
    refine gl_iconst (pc := 9) (nI 2) C dX5_isCaller_9 (by decide) ?_
    refine gl_iald (pc := 10) _ C dX5_isCaller_10 rfl rfl (by omega) ?_
    refine gl_icmp_ge (pc := 11) 18 C dX5_isCaller_11 (by decide) (fun h11 => ?_) (fun h11 => ?_)
    · skip
      refine gl_iconst (pc := 18) (nI 0) C dX5_isCaller_18 (by decide) ?_
      exact gl_zret (pc := 19) C dX5_isCaller_19 (by rfl) (by simp [*]) (rfl)
    · skip
      refine gl_iconst (pc := 14) (nI 1) C dX5_isCaller_14 (by decide) ?_
      refine gl_goto (pc := 15) 19 C dX5_isCaller_15 (by decide) ?_
      exact gl_zret (pc := 19) C dX5_isCaller_19 (by rfl) (by simp [*]) (rfl)
set_option maxRecDepth 100000 in
set_option maxHeartbeats 4000000 in
theorem ctX5_isFloor (F : gl_F) (M : Nat → Int32) (f : Int32) : gl_Ct F LM yX5_isFloor wsX5_isFloor rmX5_isFloor [.int f] M (some (.int (if sp_isf f then nI 1 else nI 0))) (M) := by
  refine gl_met (cc := cX5_isFloor) (maxL := 1) (ret := some .boolean) [some (.int f)] (plainFor_of_name (by decide)) rfl ok_LM (by simp [Value.category]) (Nat.le_of_ble_eq_true rfl) rfl (fun V hV C => ?_)
  subst hV
  refine gl_iload_0 (pc := 0) C dX5_isFloor_0 ?_
  refine gl_iconst (pc := 1) (nI 0) C dX5_isFloor_1 (by decide) ?_
  refine gl_bipush (pc := 2) (nI 15) C dX5_isFloor_2 (by decide +kernel) ?_
  refine gl_callSi (pc := 4) (ctX5_in V.1 LM ok_LM M f (nI 0) (nI 15)) C dX5_isFloor_4 gX5_isFloor_X5_in rfl hdX5_in ⟨rfl, rfl, Nat.le_of_ble_eq_true rfl, Nat.le_of_ble_eq_true rfl⟩ rfl (Nat.le_of_ble_eq_true rfl) rfl ?_
  exact gl_zret (pc := 7) C dX5_isFloor_7 (gl_nb) (by simp only [sp_isf_in]) (rfl)
set_option maxRecDepth 100000 in
set_option maxHeartbeats 4000000 in
theorem ctX5_isWay (F : gl_F) (M : Nat → Int32) (f g : Int32) : gl_Ct F LM yX5_isWay wsX5_isWay rmX5_isWay [.int f, .int g] M (some (.int (if sp_way f g then nI 1 else nI 0))) (M) := by
  refine gl_met (cc := cX5_isWay) (maxL := 2) (ret := some .boolean) [some (.int f), some (.int g)] (plainFor_of_name (by decide)) rfl ok_LM (by simp [Value.category]) (Nat.le_of_ble_eq_true rfl) rfl (fun V hV C => ?_)
  subst hV
  refine gl_iload_0 (pc := 0) C dX5_isWay_0 ?_
  refine gl_callSi (pc := 1) (ctX5_isFloor V.1 M f) C dX5_isWay_1 gX5_isWay_X5_isFloor rfl hdX5_isFloor ⟨rfl, rfl, Nat.le_of_ble_eq_true rfl, Nat.le_of_ble_eq_true rfl⟩ rfl (Nat.le_of_ble_eq_true rfl) rfl ?_
  refine gl_ifeq (pc := 4) 23 C dX5_isWay_4 (by decide) (fun h4 => ?_) (fun h4 => ?_)
  · skip
    replace h4 := gl_bz.mp h4
    refine gl_iconst (pc := 23) (nI 0) C dX5_isWay_23 (by decide) ?_
    exact gl_zret (pc := 24) C dX5_isWay_24 (by rfl) (by grind) (rfl)
  · skip
    replace h4 := gl_bn.mp h4
    refine gl_iload_1 (pc := 7) C dX5_isWay_7 ?_
    refine gl_callSi (pc := 8) (ctX5_isFloor V.1 M g) C dX5_isWay_8 gX5_isWay_X5_isFloor rfl hdX5_isFloor ⟨rfl, rfl, Nat.le_of_ble_eq_true rfl, Nat.le_of_ble_eq_true rfl⟩ rfl (Nat.le_of_ble_eq_true rfl) rfl ?_
    refine gl_ifeq (pc := 11) 23 C dX5_isWay_11 (by decide) (fun h11 => ?_) (fun h11 => ?_)
    · skip
      replace h11 := gl_bz.mp h11
      refine gl_iconst (pc := 23) (nI 0) C dX5_isWay_23 (by decide) ?_
      exact gl_zret (pc := 24) C dX5_isWay_24 (by rfl) (by grind) (rfl)
    · skip
      replace h11 := gl_bn.mp h11
      refine gl_iload_0 (pc := 14) C dX5_isWay_14 ?_
      refine gl_iload_1 (pc := 15) C dX5_isWay_15 ?_
      refine gl_icmp_eq (pc := 16) 23 C dX5_isWay_16 (by decide) (fun h16 => ?_) (fun h16 => ?_)
      · skip
        refine gl_iconst (pc := 23) (nI 0) C dX5_isWay_23 (by decide) ?_
        exact gl_zret (pc := 24) C dX5_isWay_24 (by rfl) (by grind) (rfl)
      · skip
        refine gl_iconst (pc := 19) (nI 1) C dX5_isWay_19 (by decide) ?_
        refine gl_goto (pc := 20) 24 C dX5_isWay_20 (by decide) ?_
        exact gl_zret (pc := 24) C dX5_isWay_24 (by rfl) (by grind) (rfl)
set_option maxRecDepth 100000 in
set_option maxHeartbeats 4000000 in
theorem ctX5_ofCar (F : gl_F) (M : Nat → Int32) (c w : Nat) (hc : c < 5) (hw : w < 6) : gl_Ct F LM yX5_ofCar wsX5_ofCar rmX5_ofCar [.ref (gl_r F 0), .int (nI c), .int (nI w)] M (some (.int (M (iC c w)))) (M) := by
  refine gl_met (cc := cX5_ofCar) (maxL := 3) (ret := some .int) [some (.ref (gl_r F 0)), some (.int (nI c)), some (.int (nI w))] (plainFor_of_name (by decide)) rfl ok_LM (by simp [Value.category]) (Nat.le_of_ble_eq_true rfl) rfl (fun V hV C => ?_)
  subst hV
  refine gl_aload_0 (pc := 0) C dX5_ofCar_0 ?_
  refine gl_getR (pc := 1) C dX5_ofCar_1 fX5_ofCar_7 rfl rfl ?_
  refine gl_bipush (pc := 4) (nI 28) C dX5_ofCar_4 (by decide +kernel) ?_
  refine gl_bipush (pc := 6) (nI 6) C dX5_ofCar_6 (by decide +kernel) ?_
  refine gl_iload_1 (pc := 8) C dX5_ofCar_8 ?_
  first | with_reducible refine gl_imulN (pc := 9) C dX5_ofCar_9 ?_ | refine gl_imul (pc := 9) C dX5_ofCar_9 ?_
  first | with_reducible refine gl_iaddN (pc := 10) C dX5_ofCar_10 ?_ | refine gl_iadd (pc := 10) C dX5_ofCar_10 ?_
  refine gl_iload_2 (pc := 11) C dX5_ofCar_11 ?_
  first | with_reducible refine gl_iaddN (pc := 12) C dX5_ofCar_12 ?_ | refine gl_iadd (pc := 12) C dX5_ofCar_12 ?_
  refine gl_iald (pc := 13) _ C dX5_ofCar_13 rfl rfl (by omega) ?_
  exact gl_iret (pc := 14) C dX5_ofCar_14 (rfl) (rfl)
set_option maxRecDepth 100000 in
set_option maxHeartbeats 4000000 in
theorem ctX5_putsCar (F : gl_F) (M : Nat → Int32) (c w : Nat) (hc : c < 5) (hw : w < 6) (x : Int32) : gl_Ct F LM yX5_putsCar wsX5_putsCar rmX5_putsCar [.ref (gl_r F 0), .int (nI c), .int (nI w), .int x] M (none) (upd M (iC c w) x) := by
  refine gl_met (cc := cX5_putsCar) (maxL := 4) (ret := none) [some (.ref (gl_r F 0)), some (.int (nI c)), some (.int (nI w)), some (.int x)] (plainFor_of_name (by decide)) rfl ok_LM (by simp [Value.category]) (Nat.le_of_ble_eq_true rfl) rfl (fun V hV C => ?_)
  subst hV
  refine gl_aload_0 (pc := 0) C dX5_putsCar_0 ?_
  refine gl_getR (pc := 1) C dX5_putsCar_1 fX5_putsCar_7 rfl rfl ?_
  refine gl_bipush (pc := 4) (nI 28) C dX5_putsCar_4 (by decide +kernel) ?_
  refine gl_bipush (pc := 6) (nI 6) C dX5_putsCar_6 (by decide +kernel) ?_
  refine gl_iload_1 (pc := 8) C dX5_putsCar_8 ?_
  first | with_reducible refine gl_imulN (pc := 9) C dX5_putsCar_9 ?_ | refine gl_imul (pc := 9) C dX5_putsCar_9 ?_
  first | with_reducible refine gl_iaddN (pc := 10) C dX5_putsCar_10 ?_ | refine gl_iadd (pc := 10) C dX5_putsCar_10 ?_
  refine gl_iload_2 (pc := 11) C dX5_putsCar_11 ?_
  first | with_reducible refine gl_iaddN (pc := 12) C dX5_putsCar_12 ?_ | refine gl_iadd (pc := 12) C dX5_putsCar_12 ?_
  refine gl_iload_3 (pc := 13) C dX5_putsCar_13 ?_
  refine gl_iast (pc := 14) _ C dX5_putsCar_14 rfl rfl (by omega) ?_
  exact gl_vret (pc := 15) C dX5_putsCar_15 (rfl)
set_option maxRecDepth 100000 in
set_option maxHeartbeats 4000000 in
theorem ctX5_ofCaller (F : gl_F) (M : Nat → Int32) (k w : Nat) (hk : k < 40) (hw : w < 8) : gl_Ct F LM yX5_ofCaller wsX5_ofCaller rmX5_ofCaller [.ref (gl_r F 0), .int (nI k), .int (nI w)] M (some (.int (M (iK k w)))) (M) := by
  refine gl_met (cc := cX5_ofCaller) (maxL := 3) (ret := some .int) [some (.ref (gl_r F 0)), some (.int (nI k)), some (.int (nI w))] (plainFor_of_name (by decide)) rfl ok_LM (by simp [Value.category]) (Nat.le_of_ble_eq_true rfl) rfl (fun V hV C => ?_)
  subst hV
  refine gl_aload_0 (pc := 0) C dX5_ofCaller_0 ?_
  refine gl_getR (pc := 1) C dX5_ofCaller_1 fX5_ofCaller_7 rfl rfl ?_
  refine gl_bipush (pc := 4) (nI 58) C dX5_ofCaller_4 (by decide +kernel) ?_
  refine gl_bipush (pc := 6) (nI 8) C dX5_ofCaller_6 (by decide +kernel) ?_
  refine gl_iload_1 (pc := 8) C dX5_ofCaller_8 ?_
  first | with_reducible refine gl_imulN (pc := 9) C dX5_ofCaller_9 ?_ | refine gl_imul (pc := 9) C dX5_ofCaller_9 ?_
  first | with_reducible refine gl_iaddN (pc := 10) C dX5_ofCaller_10 ?_ | refine gl_iadd (pc := 10) C dX5_ofCaller_10 ?_
  refine gl_iload_2 (pc := 11) C dX5_ofCaller_11 ?_
  first | with_reducible refine gl_iaddN (pc := 12) C dX5_ofCaller_12 ?_ | refine gl_iadd (pc := 12) C dX5_ofCaller_12 ?_
  refine gl_iald (pc := 13) _ C dX5_ofCaller_13 rfl rfl (by omega) ?_
  exact gl_iret (pc := 14) C dX5_ofCaller_14 (rfl) (rfl)
set_option maxRecDepth 100000 in
set_option maxHeartbeats 4000000 in
theorem ctX5_puts (F : gl_F) (M : Nat → Int32) (k w : Nat) (hk : k < 40) (hw : w < 8) (x : Int32) : gl_Ct F LM yX5_puts wsX5_puts rmX5_puts [.ref (gl_r F 0), .int (nI k), .int (nI w), .int x] M (none) (upd M (iK k w) x) := by
  refine gl_met (cc := cX5_puts) (maxL := 4) (ret := none) [some (.ref (gl_r F 0)), some (.int (nI k)), some (.int (nI w)), some (.int x)] (plainFor_of_name (by decide)) rfl ok_LM (by simp [Value.category]) (Nat.le_of_ble_eq_true rfl) rfl (fun V hV C => ?_)
  subst hV
  refine gl_aload_0 (pc := 0) C dX5_puts_0 ?_
  refine gl_getR (pc := 1) C dX5_puts_1 fX5_puts_7 rfl rfl ?_
  refine gl_bipush (pc := 4) (nI 58) C dX5_puts_4 (by decide +kernel) ?_
  refine gl_bipush (pc := 6) (nI 8) C dX5_puts_6 (by decide +kernel) ?_
  refine gl_iload_1 (pc := 8) C dX5_puts_8 ?_
  first | with_reducible refine gl_imulN (pc := 9) C dX5_puts_9 ?_ | refine gl_imul (pc := 9) C dX5_puts_9 ?_
  first | with_reducible refine gl_iaddN (pc := 10) C dX5_puts_10 ?_ | refine gl_iadd (pc := 10) C dX5_puts_10 ?_
  refine gl_iload_2 (pc := 11) C dX5_puts_11 ?_
  first | with_reducible refine gl_iaddN (pc := 12) C dX5_puts_12 ?_ | refine gl_iadd (pc := 12) C dX5_puts_12 ?_
  refine gl_iload_3 (pc := 13) C dX5_puts_13 ?_
  refine gl_iast (pc := 14) _ C dX5_puts_14 rfl rfl (by omega) ?_
  exact gl_vret (pc := 15) C dX5_puts_15 (rfl)
set_option maxRecDepth 100000 in
set_option maxHeartbeats 4000000 in
theorem ctX5_hour (F : gl_F) {n m t : Nat} {M : Nat → Int32} (w : sp_W n m t M) (ht31 : t < 2 ^ 31) : gl_Ct F LM yX5_hour wsX5_hour rmX5_hour [.ref (gl_r F 0)] M (some (.int (nI (sp_hr t)))) (M) := by
  refine gl_met (cc := cX5_hour) (maxL := 1) (ret := some .int) [some (.ref (gl_r F 0))] (plainFor_of_name (by decide)) rfl ok_LM (by simp [Value.category]) (Nat.le_of_ble_eq_true rfl) rfl (fun V hV C => ?_)
  subst hV
  obtain ⟨hn40, hm5, hn, hm, ht, hcar, hcal⟩ := id w
  refine gl_aload_0 (pc := 0) C dX5_hour_0 ?_
  refine gl_getR (pc := 1) C dX5_hour_1 fX5_hour_7 rfl rfl ?_
  refine gl_iconst (pc := 4) (nI 0) C dX5_hour_4 (by decide) ?_
  refine gl_iald (pc := 5) _ C dX5_hour_5 rfl rfl (by omega) ?_
  refine gl_top ht ?_
  refine gl_bipush (pc := 6) (nI 60) C dX5_hour_6 (by decide +kernel) ?_
  refine gl_idiv (pc := 8) C dX5_hour_8 (by decide) ?_
  refine gl_top (pk_div ht31 (by omega) (by omega)) ?_
  refine gl_bipush (pc := 9) (nI 24) C dX5_hour_9 (by decide +kernel) ?_
  refine gl_irem (pc := 11) C dX5_hour_11 (by decide) ?_
  refine gl_top (pk_rem (by omega) (by omega) (by omega)) ?_
  exact gl_iret (pc := 12) C dX5_hour_12 (rfl) (rfl)
set_option maxRecDepth 100000 in
set_option maxHeartbeats 4000000 in
theorem ctX5_isAwake (F : gl_F) {n m t : Nat} {M : Nat → Int32} (w : sp_W n m t M) (ht31 : t < 2 ^ 31) (c : Nat) : gl_Ct F LM yX5_isAwake wsX5_isAwake rmX5_isAwake [.ref (gl_r F 0), .int (nI c)] M (some (.int (if sp_awake M t c then nI 1 else nI 0))) (M) := by
  refine gl_met (cc := cX5_isAwake) (maxL := 2) (ret := some .boolean) [some (.ref (gl_r F 0)), some (.int (nI c))] (plainFor_of_name (by decide)) rfl ok_LM (by simp [Value.category]) (Nat.le_of_ble_eq_true rfl) rfl (fun V hV C => ?_)
  subst hV
  refine gl_iload_1 (pc := 0) C dX5_isAwake_0 ?_
  refine gl_aload_0 (pc := 1) C dX5_isAwake_1 ?_
  refine gl_getR (pc := 2) C dX5_isAwake_2 fX5_isAwake_7 rfl rfl ?_
  refine gl_iconst (pc := 5) (nI 4) C dX5_isAwake_5 (by decide) ?_
  refine gl_aload_0 (pc := 6) C dX5_isAwake_6 ?_
  refine gl_callVi (pc := 7) (ctX5_hour V.1 w ht31) C dX5_isAwake_7 gX5_isAwake_X5_hour rfl hdX5_hour ⟨rfl, rfl, Nat.le_of_ble_eq_true rfl, Nat.le_of_ble_eq_true rfl⟩ rfl (Nat.le_of_ble_eq_true rfl) rfl rfl rfl ?_
  first | with_reducible refine gl_iaddN (pc := 10) C dX5_isAwake_10 ?_ | refine gl_iadd (pc := 10) C dX5_isAwake_10 ?_
  refine gl_iald (pc := 11) _ C dX5_isAwake_11 rfl rfl (by have : sp_hr t < 24 := Nat.mod_lt _ (by omega); omega) ?_
  refine gl_icmp_ge (pc := 12) 19 C dX5_isAwake_12 (by decide) (fun h12 => ?_) (fun h12 => ?_)
  · skip
    refine gl_iconst (pc := 19) (nI 0) C dX5_isAwake_19 (by decide) ?_
    exact gl_zret (pc := 20) C dX5_isAwake_20 (by rfl) (by simp only [sp_awake]; simp [*]) (rfl)
  · skip
    refine gl_iconst (pc := 15) (nI 1) C dX5_isAwake_15 (by decide) ?_
    refine gl_goto (pc := 16) 20 C dX5_isAwake_16 (by decide) ?_
    exact gl_zret (pc := 20) C dX5_isAwake_20 (by rfl) (by simp only [sp_awake]; simp [*]) (rfl)
set_option maxRecDepth 100000 in
set_option maxHeartbeats 4000000 in
theorem ctX5_many (F : gl_F) {n : Nat} (hn40 : n ≤ 40) {M : Nat → Int32} (hn : M 2 = nI n) (c is : Int32) : gl_Ct F LM yX5_many wsX5_many rmX5_many [.ref (gl_r F 0), .int c, .int is] M (some (.int (sp_of M c is n))) (M) := by
  refine gl_met (cc := cX5_many) (maxL := 5) (ret := some .int) [some (.ref (gl_r F 0)), some (.int c), some (.int is), none, none] (plainFor_of_name (by decide)) rfl ok_LM (by simp [Value.category]) (Nat.le_of_ble_eq_true rfl) rfl (fun V hV C => ?_)
  subst hV
  refine gl_iconst (pc := 0) (nI 0) C dX5_many_0 (by decide) ?_
  refine gl_istore_3 (pc := 1) C dX5_many_1 ?_
  refine gl_iconst (pc := 2) (nI 0) C dX5_many_2 (by decide) ?_
  refine gl_istore_4 (pc := 3) C dX5_many_3 ?_
  refine gl_loop (pc := 5) (n := n) (fun k => [some (.ref (gl_r V.1 0)), some (.int c), some (.int is), some (.int (sp_of M c is k)), some (.int (nI k))]) (fun k => M) (fun k => True) 0 (Nat.zero_le _) (trivial) (gl_le_c (rfl) (gl_le_c (rfl) (gl_le_c (rfl) (gl_le_c (rfl) (gl_le_c (rfl) (gl_le_n)))))) (rfl) (fun hI => ?_) (fun k hk hI ih => ?_)
  · skip
    refine gl_iload_4 (pc := 5) C dX5_many_5 ?_
    refine gl_aload_0 (pc := 7) C dX5_many_7 ?_
    refine gl_getR (pc := 8) C dX5_many_8 fX5_many_7 rfl rfl ?_
    refine gl_iconst (pc := 11) (nI 2) C dX5_many_11 (by decide) ?_
    refine gl_iald (pc := 12) _ C dX5_many_12 rfl rfl (by omega) ?_
    refine gl_top hn ?_
    refine gl_icmp_ge (pc := 13) 52 C dX5_many_13 (by decide) (fun h13 => ?_) (fun h13 => absurd h13 (gl_xge))
    refine gl_iload_3 (pc := 52) C dX5_many_52 ?_
    exact gl_iret (pc := 53) C dX5_many_53 (rfl) (rfl)
  · skip
    refine gl_iload_4 (pc := 5) C dX5_many_5 ?_
    refine gl_aload_0 (pc := 7) C dX5_many_7 ?_
    refine gl_getR (pc := 8) C dX5_many_8 fX5_many_7 rfl rfl ?_
    refine gl_iconst (pc := 11) (nI 2) C dX5_many_11 (by decide) ?_
    refine gl_iald (pc := 12) _ C dX5_many_12 rfl rfl (by omega) ?_
    refine gl_top hn ?_
    refine gl_icmp_ge (pc := 13) 52 C dX5_many_13 (by decide) (fun h13 => absurd h13 (nI_ge hk (by omega))) (fun h13 => ?_)
    refine gl_iload_3 (pc := 16) C dX5_many_16 ?_
    refine gl_aload_0 (pc := 17) C dX5_many_17 ?_
    refine gl_iload_4 (pc := 18) C dX5_many_18 ?_
    refine gl_iconst (pc := 20) (nI 2) C dX5_many_20 (by decide) ?_
    refine gl_callVi (pc := 21) (ctX5_ofCaller V.1 M k 2 (by omega) (by omega)) C dX5_many_21 gX5_many_X5_ofCaller rfl hdX5_ofCaller ⟨rfl, rfl, Nat.le_of_ble_eq_true rfl, Nat.le_of_ble_eq_true rfl⟩ rfl (Nat.le_of_ble_eq_true rfl) rfl rfl rfl ?_
    refine gl_iload_2 (pc := 24) C dX5_many_24 ?_
    refine gl_icmp_ne (pc := 25) 43 C dX5_many_25 (by decide) (fun h25 => ?_) (fun h25 => ?_)
    · skip
      refine gl_iconst (pc := 43) (nI 0) C dX5_many_43 (by decide) ?_
      first | with_reducible refine gl_iaddN (pc := 44) C dX5_many_44 ?_ | refine gl_iadd (pc := 44) C dX5_many_44 ?_
      refine gl_istore_3 (pc := 45) C dX5_many_45 ?_
      first | with_reducible refine gl_iincN_4 (pc := 46) gl_i1 C dX5_many_46 ?_ | refine gl_iinc_4 (pc := 46) C dX5_many_46 (gl_inc1 _) ?_
      refine gl_goto (pc := 49) 5 C dX5_many_49 (by decide) ?_
      exact gl_on (ih (trivial)) (gl_le_c (rfl) (gl_le_c (rfl) (gl_le_c (rfl) (gl_le_c (congrArg Value.int (by grind [sp_of, gl_add0])) (gl_le_c (rfl) (gl_le_n)))))) (rfl)
    · skip
      refine gl_aload_0 (pc := 28) C dX5_many_28 ?_
      refine gl_iload_4 (pc := 29) C dX5_many_29 ?_
      refine gl_iconst (pc := 31) (nI 3) C dX5_many_31 (by decide) ?_
      refine gl_callVi (pc := 32) (ctX5_ofCaller V.1 M k 3 (by omega) (by omega)) C dX5_many_32 gX5_many_X5_ofCaller rfl hdX5_ofCaller ⟨rfl, rfl, Nat.le_of_ble_eq_true rfl, Nat.le_of_ble_eq_true rfl⟩ rfl (Nat.le_of_ble_eq_true rfl) rfl rfl rfl ?_
      refine gl_iload_1 (pc := 35) C dX5_many_35 ?_
      refine gl_icmp_ne (pc := 36) 43 C dX5_many_36 (by decide) (fun h36 => ?_) (fun h36 => ?_)
      · skip
        refine gl_iconst (pc := 43) (nI 0) C dX5_many_43 (by decide) ?_
        first | with_reducible refine gl_iaddN (pc := 44) C dX5_many_44 ?_ | refine gl_iadd (pc := 44) C dX5_many_44 ?_
        refine gl_istore_3 (pc := 45) C dX5_many_45 ?_
        first | with_reducible refine gl_iincN_4 (pc := 46) gl_i1 C dX5_many_46 ?_ | refine gl_iinc_4 (pc := 46) C dX5_many_46 (gl_inc1 _) ?_
        refine gl_goto (pc := 49) 5 C dX5_many_49 (by decide) ?_
        exact gl_on (ih (trivial)) (gl_le_c (rfl) (gl_le_c (rfl) (gl_le_c (rfl) (gl_le_c (congrArg Value.int (by grind [sp_of, gl_add0])) (gl_le_c (rfl) (gl_le_n)))))) (rfl)
      · skip
        refine gl_iconst (pc := 39) (nI 1) C dX5_many_39 (by decide) ?_
        refine gl_goto (pc := 40) 44 C dX5_many_40 (by decide) ?_
        first | with_reducible refine gl_iaddN (pc := 44) C dX5_many_44 ?_ | refine gl_iadd (pc := 44) C dX5_many_44 ?_
        refine gl_istore_3 (pc := 45) C dX5_many_45 ?_
        first | with_reducible refine gl_iincN_4 (pc := 46) gl_i1 C dX5_many_46 ?_ | refine gl_iinc_4 (pc := 46) C dX5_many_46 (gl_inc1 _) ?_
        refine gl_goto (pc := 49) 5 C dX5_many_49 (by decide) ?_
        exact gl_on (ih (trivial)) (gl_le_c (rfl) (gl_le_c (rfl) (gl_le_c (rfl) (gl_le_c (congrArg Value.int (by grind [sp_of, gl_add0])) (gl_le_c (rfl) (gl_le_n)))))) (rfl)
set_option maxRecDepth 100000 in
set_option maxHeartbeats 4000000 in
theorem ctX5_inAll (F : gl_F) {n : Nat} (hn40 : n ≤ 40) {M : Nat → Int32} (hn : M 2 = nI n) (is : Int32) : gl_Ct F LM yX5_inAll wsX5_inAll rmX5_inAll [.ref (gl_r F 0), .int is] M (some (.int (sp_in M is n))) (M) := by
  refine gl_met (cc := cX5_inAll) (maxL := 4) (ret := some .int) [some (.ref (gl_r F 0)), some (.int is), none, none] (plainFor_of_name (by decide)) rfl ok_LM (by simp [Value.category]) (Nat.le_of_ble_eq_true rfl) rfl (fun V hV C => ?_)
  subst hV
  refine gl_iconst (pc := 0) (nI 0) C dX5_inAll_0 (by decide) ?_
  refine gl_istore_2 (pc := 1) C dX5_inAll_1 ?_
  refine gl_iconst (pc := 2) (nI 0) C dX5_inAll_2 (by decide) ?_
  refine gl_istore_3 (pc := 3) C dX5_inAll_3 ?_
  refine gl_loop (pc := 4) (n := n) (fun k => [some (.ref (gl_r V.1 0)), some (.int is), some (.int (sp_in M is k)), some (.int (nI k))]) (fun k => M) (fun k => True) 0 (Nat.zero_le _) (trivial) (gl_le_c (rfl) (gl_le_c (rfl) (gl_le_c (rfl) (gl_le_c (rfl) (gl_le_n))))) (rfl) (fun hI => ?_) (fun k hk hI ih => ?_)
  · skip
    refine gl_iload_3 (pc := 4) C dX5_inAll_4 ?_
    refine gl_aload_0 (pc := 5) C dX5_inAll_5 ?_
    refine gl_getR (pc := 6) C dX5_inAll_6 fX5_inAll_7 rfl rfl ?_
    refine gl_iconst (pc := 9) (nI 2) C dX5_inAll_9 (by decide) ?_
    refine gl_iald (pc := 10) _ C dX5_inAll_10 rfl rfl (by omega) ?_
    refine gl_top hn ?_
    refine gl_icmp_ge (pc := 11) 38 C dX5_inAll_11 (by decide) (fun h11 => ?_) (fun h11 => absurd h11 (gl_xge))
    refine gl_iload_2 (pc := 38) C dX5_inAll_38 ?_
    exact gl_iret (pc := 39) C dX5_inAll_39 (rfl) (rfl)
  · skip
    refine gl_iload_3 (pc := 4) C dX5_inAll_4 ?_
    refine gl_aload_0 (pc := 5) C dX5_inAll_5 ?_
    refine gl_getR (pc := 6) C dX5_inAll_6 fX5_inAll_7 rfl rfl ?_
    refine gl_iconst (pc := 9) (nI 2) C dX5_inAll_9 (by decide) ?_
    refine gl_iald (pc := 10) _ C dX5_inAll_10 rfl rfl (by omega) ?_
    refine gl_top hn ?_
    refine gl_icmp_ge (pc := 11) 38 C dX5_inAll_11 (by decide) (fun h11 => absurd h11 (nI_ge hk (by omega))) (fun h11 => ?_)
    refine gl_iload_2 (pc := 14) C dX5_inAll_14 ?_
    refine gl_aload_0 (pc := 15) C dX5_inAll_15 ?_
    refine gl_iload_3 (pc := 16) C dX5_inAll_16 ?_
    refine gl_iconst (pc := 17) (nI 2) C dX5_inAll_17 (by decide) ?_
    refine gl_callVi (pc := 18) (ctX5_ofCaller V.1 M k 2 (by omega) (by omega)) C dX5_inAll_18 gX5_inAll_X5_ofCaller rfl hdX5_ofCaller ⟨rfl, rfl, Nat.le_of_ble_eq_true rfl, Nat.le_of_ble_eq_true rfl⟩ rfl (Nat.le_of_ble_eq_true rfl) rfl rfl rfl ?_
    refine gl_iload_1 (pc := 21) C dX5_inAll_21 ?_
    refine gl_icmp_ne (pc := 22) 29 C dX5_inAll_22 (by decide) (fun h22 => ?_) (fun h22 => ?_)
    · skip
      refine gl_iconst (pc := 29) (nI 0) C dX5_inAll_29 (by decide) ?_
      first | with_reducible refine gl_iaddN (pc := 30) C dX5_inAll_30 ?_ | refine gl_iadd (pc := 30) C dX5_inAll_30 ?_
      refine gl_istore_2 (pc := 31) C dX5_inAll_31 ?_
      first | with_reducible refine gl_iincN_3 (pc := 32) gl_i1 C dX5_inAll_32 ?_ | refine gl_iinc_3 (pc := 32) C dX5_inAll_32 (gl_inc1 _) ?_
      refine gl_goto (pc := 35) 4 C dX5_inAll_35 (by decide) ?_
      exact gl_on (ih (trivial)) (gl_le_c (rfl) (gl_le_c (rfl) (gl_le_c (congrArg Value.int (by grind [sp_in, gl_add0])) (gl_le_c (rfl) (gl_le_n))))) (rfl)
    · skip
      refine gl_iconst (pc := 25) (nI 1) C dX5_inAll_25 (by decide) ?_
      refine gl_goto (pc := 26) 30 C dX5_inAll_26 (by decide) ?_
      first | with_reducible refine gl_iaddN (pc := 30) C dX5_inAll_30 ?_ | refine gl_iadd (pc := 30) C dX5_inAll_30 ?_
      refine gl_istore_2 (pc := 31) C dX5_inAll_31 ?_
      first | with_reducible refine gl_iincN_3 (pc := 32) gl_i1 C dX5_inAll_32 ?_ | refine gl_iinc_3 (pc := 32) C dX5_inAll_32 (gl_inc1 _) ?_
      refine gl_goto (pc := 35) 4 C dX5_inAll_35 (by decide) ?_
      exact gl_on (ih (trivial)) (gl_le_c (rfl) (gl_le_c (rfl) (gl_le_c (congrArg Value.int (by grind [sp_in, gl_add0])) (gl_le_c (rfl) (gl_le_n))))) (rfl)
set_option maxRecDepth 100000 in
set_option maxHeartbeats 4000000 in
theorem ctX5_stops (F : gl_F) {n : Nat} (hn40 : n ≤ 40) {M : Nat → Int32} (hn : M 2 = nI n) (hp : ∀ k, k < n → ∃ i, i ≤ 3 ∧ M (iK k 2) = nI i) (c : Int32) : gl_Ct F LM yX5_stops wsX5_stops rmX5_stops [.ref (gl_r F 0), .int c] M (some (.int (sp_stops M c n))) (M) := by
  refine gl_met (cc := cX5_stops) (maxL := 4) (ret := some .int) [some (.ref (gl_r F 0)), some (.int c), none, none] (plainFor_of_name (by decide)) rfl ok_LM (by simp [Value.category]) (Nat.le_of_ble_eq_true rfl) rfl (fun V hV C => ?_)
  subst hV
  refine gl_iconst (pc := 0) (nI 0) C dX5_stops_0 (by decide) ?_
  refine gl_istore_2 (pc := 1) C dX5_stops_1 ?_
  refine gl_iconst (pc := 2) (nI 0) C dX5_stops_2 (by decide) ?_
  refine gl_istore_3 (pc := 3) C dX5_stops_3 ?_
  refine gl_loop (pc := 4) (n := n) (fun k => [some (.ref (gl_r V.1 0)), some (.int c), some (.int (sp_stops M c k)), some (.int (nI k))]) (fun k => M) (fun k => True) 0 (Nat.zero_le _) (trivial) (gl_le_c (rfl) (gl_le_c (rfl) (gl_le_c (rfl) (gl_le_c (rfl) (gl_le_n))))) (rfl) (fun hI => ?_) (fun k hk hI ih => ?_)
  · skip
    refine gl_iload_3 (pc := 4) C dX5_stops_4 ?_
    refine gl_aload_0 (pc := 5) C dX5_stops_5 ?_
    refine gl_getR (pc := 6) C dX5_stops_6 fX5_stops_7 rfl rfl ?_
    refine gl_iconst (pc := 9) (nI 2) C dX5_stops_9 (by decide) ?_
    refine gl_iald (pc := 10) _ C dX5_stops_10 rfl rfl (by omega) ?_
    refine gl_top hn ?_
    refine gl_icmp_ge (pc := 11) 78 C dX5_stops_11 (by decide) (fun h11 => ?_) (fun h11 => absurd h11 (gl_xge))
    refine gl_iload_2 (pc := 78) C dX5_stops_78 ?_
    exact gl_iret (pc := 79) C dX5_stops_79 (rfl) (rfl)
  · skip
    refine gl_iload_3 (pc := 4) C dX5_stops_4 ?_
    refine gl_aload_0 (pc := 5) C dX5_stops_5 ?_
    refine gl_getR (pc := 6) C dX5_stops_6 fX5_stops_7 rfl rfl ?_
    refine gl_iconst (pc := 9) (nI 2) C dX5_stops_9 (by decide) ?_
    refine gl_iald (pc := 10) _ C dX5_stops_10 rfl rfl (by omega) ?_
    refine gl_top hn ?_
    refine gl_icmp_ge (pc := 11) 78 C dX5_stops_11 (by decide) (fun h11 => absurd h11 (nI_ge hk (by omega))) (fun h11 => ?_)
    refine gl_aload_0 (pc := 14) C dX5_stops_14 ?_
    refine gl_iload_3 (pc := 15) C dX5_stops_15 ?_
    refine gl_iconst (pc := 16) (nI 3) C dX5_stops_16 (by decide) ?_
    refine gl_callVi (pc := 17) (ctX5_ofCaller V.1 M k 3 (by omega) (by omega)) C dX5_stops_17 gX5_stops_X5_ofCaller rfl hdX5_ofCaller ⟨rfl, rfl, Nat.le_of_ble_eq_true rfl, Nat.le_of_ble_eq_true rfl⟩ rfl (Nat.le_of_ble_eq_true rfl) rfl rfl rfl ?_
    refine gl_iload_1 (pc := 20) C dX5_stops_20 ?_
    refine gl_icmp_ne (pc := 21) 72 C dX5_stops_21 (by decide) (fun h21 => ?_) (fun h21 => ?_)
    · skip
      first | with_reducible refine gl_iincN_3 (pc := 72) gl_i1 C dX5_stops_72 ?_ | refine gl_iinc_3 (pc := 72) C dX5_stops_72 (gl_inc1 _) ?_
      refine gl_goto (pc := 75) 4 C dX5_stops_75 (by decide) ?_
      exact gl_on (ih (trivial)) (gl_le_c (rfl) (gl_le_c (rfl) (gl_le_c (congrArg Value.int (by grind [sp_stops])) (gl_le_c (rfl) (gl_le_n))))) (rfl)
    · skip
      refine gl_aload_0 (pc := 24) C dX5_stops_24 ?_
      refine gl_iload_3 (pc := 25) C dX5_stops_25 ?_
      refine gl_iconst (pc := 26) (nI 2) C dX5_stops_26 (by decide) ?_
      refine gl_callVi (pc := 27) (ctX5_ofCaller V.1 M k 2 (by omega) (by omega)) C dX5_stops_27 gX5_stops_X5_ofCaller rfl hdX5_ofCaller ⟨rfl, rfl, Nat.le_of_ble_eq_true rfl, Nat.le_of_ble_eq_true rfl⟩ rfl (Nat.le_of_ble_eq_true rfl) rfl rfl rfl ?_
      refine gl_iconst (pc := 30) (nI 1) C dX5_stops_30 (by decide) ?_
      refine gl_iconst (pc := 31) (nI 2) C dX5_stops_31 (by decide) ?_
      refine gl_callSi (pc := 32) (ctX5_in V.1 LM ok_LM M (M (iK k 2)) (nI 1) (nI 2)) C dX5_stops_32 gX5_stops_X5_in rfl hdX5_in ⟨rfl, rfl, Nat.le_of_ble_eq_true rfl, Nat.le_of_ble_eq_true rfl⟩ rfl (Nat.le_of_ble_eq_true rfl) rfl ?_
      refine gl_ifeq (pc := 35) 72 C dX5_stops_35 (by decide) (fun h35 => ?_) (fun h35 => ?_)
      · skip
        replace h35 := gl_bz.mp h35
        rw [sp_ph (hp k hk)] at h35
        first | with_reducible refine gl_iincN_3 (pc := 72) gl_i1 C dX5_stops_72 ?_ | refine gl_iinc_3 (pc := 72) C dX5_stops_72 (gl_inc1 _) ?_
        refine gl_goto (pc := 75) 4 C dX5_stops_75 (by decide) ?_
        exact gl_on (ih (trivial)) (gl_le_c (rfl) (gl_le_c (rfl) (gl_le_c (congrArg Value.int (by grind [sp_stops])) (gl_le_c (rfl) (gl_le_n))))) (rfl)
      · skip
        replace h35 := gl_bn.mp h35
        rw [sp_ph (hp k hk)] at h35
        refine gl_iload_2 (pc := 38) C dX5_stops_38 ?_
        refine gl_iconst (pc := 39) (nI 1) C dX5_stops_39 (by decide) ?_
        refine gl_aload_0 (pc := 40) C dX5_stops_40 ?_
        refine gl_iload_3 (pc := 41) C dX5_stops_41 ?_
        refine gl_iconst (pc := 42) (nI 1) C dX5_stops_42 (by decide) ?_
        refine gl_callVi (pc := 43) (ctX5_ofCaller V.1 M k 1 (by omega) (by omega)) C dX5_stops_43 gX5_stops_X5_ofCaller rfl hdX5_ofCaller ⟨rfl, rfl, Nat.le_of_ble_eq_true rfl, Nat.le_of_ble_eq_true rfl⟩ rfl (Nat.le_of_ble_eq_true rfl) rfl rfl rfl ?_
        refine gl_ishl (pc := 46) C dX5_stops_46 ?_
        refine gl_aload_0 (pc := 47) C dX5_stops_47 ?_
        refine gl_iload_3 (pc := 48) C dX5_stops_48 ?_
        refine gl_iconst (pc := 49) (nI 2) C dX5_stops_49 (by decide) ?_
        refine gl_callVi (pc := 50) (ctX5_ofCaller V.1 M k 2 (by omega) (by omega)) C dX5_stops_50 gX5_stops_X5_ofCaller rfl hdX5_ofCaller ⟨rfl, rfl, Nat.le_of_ble_eq_true rfl, Nat.le_of_ble_eq_true rfl⟩ rfl (Nat.le_of_ble_eq_true rfl) rfl rfl rfl ?_
        refine gl_iconst (pc := 53) (nI 1) C dX5_stops_53 (by decide) ?_
        refine gl_icmp_ne (pc := 54) 68 C dX5_stops_54 (by decide) (fun h54 => ?_) (fun h54 => ?_)
        · skip
          refine gl_iconst (pc := 68) (nI 0) C dX5_stops_68 (by decide) ?_
          refine gl_ior (pc := 69) C dX5_stops_69 ?_
          refine gl_ior (pc := 70) C dX5_stops_70 ?_
          refine gl_istore_2 (pc := 71) C dX5_stops_71 ?_
          first | with_reducible refine gl_iincN_3 (pc := 72) gl_i1 C dX5_stops_72 ?_ | refine gl_iinc_3 (pc := 72) C dX5_stops_72 (gl_inc1 _) ?_
          refine gl_goto (pc := 75) 4 C dX5_stops_75 (by decide) ?_
          exact gl_on (ih (trivial)) (gl_le_c (rfl) (gl_le_c (rfl) (gl_le_c (congrArg Value.int (by rw [sp_stops, if_neg (fun q => h54 q.1), if_pos ⟨h35.resolve_left h54, h21⟩, gl_or0])) (gl_le_c (rfl) (gl_le_n))))) (rfl)
        · skip
          refine gl_iconst (pc := 57) (nI 1) C dX5_stops_57 (by decide) ?_
          refine gl_aload_0 (pc := 58) C dX5_stops_58 ?_
          refine gl_iload_3 (pc := 59) C dX5_stops_59 ?_
          refine gl_iconst (pc := 60) (nI 0) C dX5_stops_60 (by decide) ?_
          refine gl_callVi (pc := 61) (ctX5_ofCaller V.1 M k 0 (by omega) (by omega)) C dX5_stops_61 gX5_stops_X5_ofCaller rfl hdX5_ofCaller ⟨rfl, rfl, Nat.le_of_ble_eq_true rfl, Nat.le_of_ble_eq_true rfl⟩ rfl (Nat.le_of_ble_eq_true rfl) rfl rfl rfl ?_
          refine gl_ishl (pc := 64) C dX5_stops_64 ?_
          refine gl_goto (pc := 65) 69 C dX5_stops_65 (by decide) ?_
          refine gl_ior (pc := 69) C dX5_stops_69 ?_
          refine gl_ior (pc := 70) C dX5_stops_70 ?_
          refine gl_istore_2 (pc := 71) C dX5_stops_71 ?_
          first | with_reducible refine gl_iincN_3 (pc := 72) gl_i1 C dX5_stops_72 ?_ | refine gl_iinc_3 (pc := 72) C dX5_stops_72 (gl_inc1 _) ?_
          refine gl_goto (pc := 75) 4 C dX5_stops_75 (by decide) ?_
          exact gl_on (ih (trivial)) (gl_le_c (rfl) (gl_le_c (rfl) (gl_le_c (congrArg Value.int (by rw [sp_stops, if_pos ⟨h54, h21⟩, Int32.or_comm (nI 1 <<< (M (iK k 0) &&& 31))])) (gl_le_c (rfl) (gl_le_n))))) (rfl)
set_option maxRecDepth 100000 in
set_option maxHeartbeats 4000000 in
theorem ctX5_ones (F : gl_F) (M : Nat → Int32) (x : Int32) : gl_Ct F LM yX5_ones wsX5_ones rmX5_ones [.int x] M (some (.int (sp_pop x))) (M) := by
  refine gl_met (cc := cX5_ones) (maxL := 3) (ret := some .int) [some (.int x), none, none] (plainFor_of_name (by decide)) rfl ok_LM (by simp [Value.category]) (Nat.le_of_ble_eq_true rfl) rfl (fun V hV C => ?_)
  subst hV
  refine gl_iconst (pc := 0) (nI 0) C dX5_ones_0 (by decide) ?_
  refine gl_istore_1 (pc := 1) C dX5_ones_1 ?_
  refine gl_iconst (pc := 2) (nI 0) C dX5_ones_2 (by decide) ?_
  refine gl_istore_2 (pc := 3) C dX5_ones_3 ?_
  refine gl_loop (pc := 4) (n := 16) (fun k => [some (.int x), some (.int (sp_ones x k)), some (.int (nI k))]) (fun k => M) (fun k => True) 0 (Nat.zero_le _) (trivial) (gl_le_c (rfl) (gl_le_c (rfl) (gl_le_c (rfl) (gl_le_n)))) (rfl) (fun hI => ?_) (fun k hk hI ih => ?_)
  · skip
    refine gl_iload_2 (pc := 4) C dX5_ones_4 ?_
    refine gl_bipush (pc := 5) (nI 16) C dX5_ones_5 (by decide +kernel) ?_
    refine gl_icmp_ge (pc := 7) 24 C dX5_ones_7 (by decide) (fun h7 => ?_) (fun h7 => absurd h7 (gl_xge))
    refine gl_iload_1 (pc := 24) C dX5_ones_24 ?_
    exact gl_iret (pc := 25) C dX5_ones_25 (rfl) (rfl)
  · skip
    refine gl_iload_2 (pc := 4) C dX5_ones_4 ?_
    refine gl_bipush (pc := 5) (nI 16) C dX5_ones_5 (by decide +kernel) ?_
    refine gl_icmp_ge (pc := 7) 24 C dX5_ones_7 (by decide) (fun h7 => absurd h7 (nI_ge hk (by omega))) (fun h7 => ?_)
    refine gl_iload_1 (pc := 10) C dX5_ones_10 ?_
    refine gl_iload_0 (pc := 11) C dX5_ones_11 ?_
    refine gl_iload_2 (pc := 12) C dX5_ones_12 ?_
    refine gl_ishr (pc := 13) C dX5_ones_13 ?_
    refine gl_iconst (pc := 14) (nI 1) C dX5_ones_14 (by decide) ?_
    refine gl_iand (pc := 15) C dX5_ones_15 ?_
    first | with_reducible refine gl_iaddN (pc := 16) C dX5_ones_16 ?_ | refine gl_iadd (pc := 16) C dX5_ones_16 ?_
    refine gl_istore_1 (pc := 17) C dX5_ones_17 ?_
    first | with_reducible refine gl_iincN_2 (pc := 18) gl_i1 C dX5_ones_18 ?_ | refine gl_iinc_2 (pc := 18) C dX5_ones_18 (gl_inc1 _) ?_
    refine gl_goto (pc := 21) 4 C dX5_ones_21 (by decide) ?_
    exact gl_on (ih (trivial)) (gl_le_c (rfl) (gl_le_c (rfl) (gl_le_c (rfl) (gl_le_n)))) (rfl)
set_option maxRecDepth 100000 in
set_option maxHeartbeats 4000000 in
theorem ctX5_far (F : gl_F) (M : Nat → Int32) (a b : Int32) : gl_Ct F LM yX5_far wsX5_far rmX5_far [.int a, .int b] M (some (.int (sp_far a b))) (M) := by
  refine gl_met (cc := cX5_far) (maxL := 2) (ret := some .int) [some (.int a), some (.int b)] (plainFor_of_name (by decide)) rfl ok_LM (by simp [Value.category]) (Nat.le_of_ble_eq_true rfl) rfl (fun V hV C => ?_)
  subst hV
  refine gl_iload_0 (pc := 0) C dX5_far_0 ?_
  refine gl_iload_1 (pc := 1) C dX5_far_1 ?_
  refine gl_icmp_ge (pc := 2) 11 C dX5_far_2 (by decide) (fun h2 => ?_) (fun h2 => ?_)
  · skip
    replace h2 := Int32.not_lt.mpr h2
    refine gl_iload_0 (pc := 11) C dX5_far_11 ?_
    refine gl_iload_1 (pc := 12) C dX5_far_12 ?_
    refine gl_isub (pc := 13) C dX5_far_13 ?_
    exact gl_iret (pc := 14) C dX5_far_14 (by simp [sp_far, *]) (rfl)
  · skip
    replace h2 := Int32.not_le.mp h2
    refine gl_iload_1 (pc := 5) C dX5_far_5 ?_
    refine gl_iload_0 (pc := 6) C dX5_far_6 ?_
    refine gl_isub (pc := 7) C dX5_far_7 ?_
    refine gl_goto (pc := 8) 14 C dX5_far_8 (by decide) ?_
    exact gl_iret (pc := 14) C dX5_far_14 (by simp [sp_far, *]) (rfl)
set_option maxRecDepth 100000 in
set_option maxHeartbeats 4000000 in
theorem ctX5_canBeGiven (F : gl_F) {n m t : Nat} {M : Nat → Int32} (w : sp_W n m t M) (ht31 : t < 2 ^ 31) {c : Nat} (hc : c < 5) (f g : Int32) : gl_Ct F LM yX5_canBeGiven wsX5_canBeGiven rmX5_canBeGiven [.ref (gl_r F 0), .int (nI c), .int f, .int g] M (some (.int (if sp_can M t c f g then nI 1 else nI 0))) (M) := by
  refine gl_met (cc := cX5_canBeGiven) (maxL := 5) (ret := some .boolean) [some (.ref (gl_r F 0)), some (.int (nI c)), some (.int f), some (.int g), none] (plainFor_of_name (by decide)) rfl ok_LM (by simp [Value.category]) (Nat.le_of_ble_eq_true rfl) rfl (fun V hV C => ?_)
  subst hV
  refine gl_aload_0 (pc := 0) C dX5_canBeGiven_0 ?_
  refine gl_iload_1 (pc := 1) C dX5_canBeGiven_1 ?_
  refine gl_iconst (pc := 2) (nI 4) C dX5_canBeGiven_2 (by decide) ?_
  refine gl_callVi (pc := 3) (ctX5_ofCar V.1 M c 4 (by omega) (by omega)) C dX5_canBeGiven_3 gX5_canBeGiven_X5_ofCar rfl hdX5_ofCar ⟨rfl, rfl, Nat.le_of_ble_eq_true rfl, Nat.le_of_ble_eq_true rfl⟩ rfl (Nat.le_of_ble_eq_true rfl) rfl rfl rfl ?_
  refine gl_ifne (pc := 6) 21 C dX5_canBeGiven_6 (by decide) (fun h6 => ?_) (fun h6 => ?_)
  · skip
    refine gl_iconst (pc := 21) (nI 0) C dX5_canBeGiven_21 (by decide) ?_
    refine gl_istore_4 (pc := 22) C dX5_canBeGiven_22 ?_
    refine gl_iload_4 (pc := 24) C dX5_canBeGiven_24 ?_
    refine gl_ifeq (pc := 26) 71 C dX5_canBeGiven_26 (by decide) (fun h26 => ?_) (fun h26 => absurd h26 (not_not_intro nI_0'))
    refine gl_iconst (pc := 71) (nI 0) C dX5_canBeGiven_71 (by decide) ?_
    exact gl_zret (pc := 72) C dX5_canBeGiven_72 (by rfl) (by grind) (rfl)
  · skip
    refine gl_aload_0 (pc := 9) C dX5_canBeGiven_9 ?_
    refine gl_iload_1 (pc := 10) C dX5_canBeGiven_10 ?_
    refine gl_callVi (pc := 11) (ctX5_isAwake V.1 w ht31 c) C dX5_canBeGiven_11 gX5_canBeGiven_X5_isAwake rfl hdX5_isAwake ⟨rfl, rfl, Nat.le_of_ble_eq_true rfl, Nat.le_of_ble_eq_true rfl⟩ rfl (Nat.le_of_ble_eq_true rfl) rfl rfl rfl ?_
    refine gl_ifeq (pc := 14) 21 C dX5_canBeGiven_14 (by decide) (fun h14 => ?_) (fun h14 => ?_)
    · skip
      replace h14 := gl_bz.mp h14
      refine gl_iconst (pc := 21) (nI 0) C dX5_canBeGiven_21 (by decide) ?_
      refine gl_istore_4 (pc := 22) C dX5_canBeGiven_22 ?_
      refine gl_iload_4 (pc := 24) C dX5_canBeGiven_24 ?_
      refine gl_ifeq (pc := 26) 71 C dX5_canBeGiven_26 (by decide) (fun h26 => ?_) (fun h26 => absurd h26 (not_not_intro nI_0'))
      refine gl_iconst (pc := 71) (nI 0) C dX5_canBeGiven_71 (by decide) ?_
      exact gl_zret (pc := 72) C dX5_canBeGiven_72 (by rfl) (by grind) (rfl)
    · skip
      replace h14 := gl_bn.mp h14
      refine gl_iconst (pc := 17) (nI 1) C dX5_canBeGiven_17 (by decide) ?_
      refine gl_goto (pc := 18) 22 C dX5_canBeGiven_18 (by decide) ?_
      refine gl_istore_4 (pc := 22) C dX5_canBeGiven_22 ?_
      refine gl_iload_4 (pc := 24) C dX5_canBeGiven_24 ?_
      refine gl_ifeq (pc := 26) 71 C dX5_canBeGiven_26 (by decide) (fun h26 => absurd h26 (by decide)) (fun h26 => ?_)
      refine gl_iload_2 (pc := 29) C dX5_canBeGiven_29 ?_
      refine gl_aload_0 (pc := 30) C dX5_canBeGiven_30 ?_
      refine gl_iload_1 (pc := 31) C dX5_canBeGiven_31 ?_
      refine gl_iconst (pc := 32) (nI 0) C dX5_canBeGiven_32 (by decide) ?_
      refine gl_callVi (pc := 33) (ctX5_ofCar V.1 M c 0 (by omega) (by omega)) C dX5_canBeGiven_33 gX5_canBeGiven_X5_ofCar rfl hdX5_ofCar ⟨rfl, rfl, Nat.le_of_ble_eq_true rfl, Nat.le_of_ble_eq_true rfl⟩ rfl (Nat.le_of_ble_eq_true rfl) rfl rfl rfl ?_
      refine gl_aload_0 (pc := 36) C dX5_canBeGiven_36 ?_
      refine gl_iload_1 (pc := 37) C dX5_canBeGiven_37 ?_
      refine gl_iconst (pc := 38) (nI 1) C dX5_canBeGiven_38 (by decide) ?_
      refine gl_callVi (pc := 39) (ctX5_ofCar V.1 M c 1 (by omega) (by omega)) C dX5_canBeGiven_39 gX5_canBeGiven_X5_ofCar rfl hdX5_ofCar ⟨rfl, rfl, Nat.le_of_ble_eq_true rfl, Nat.le_of_ble_eq_true rfl⟩ rfl (Nat.le_of_ble_eq_true rfl) rfl rfl rfl ?_
      refine gl_callSi (pc := 42) (ctX5_in V.1 LM ok_LM M f (M (iC c 0)) (M (iC c 1))) C dX5_canBeGiven_42 gX5_canBeGiven_X5_in rfl hdX5_in ⟨rfl, rfl, Nat.le_of_ble_eq_true rfl, Nat.le_of_ble_eq_true rfl⟩ rfl (Nat.le_of_ble_eq_true rfl) rfl ?_
      refine gl_ifeq (pc := 45) 71 C dX5_canBeGiven_45 (by decide) (fun h45 => ?_) (fun h45 => ?_)
      · skip
        replace h45 := gl_bz.mp h45
        refine gl_iconst (pc := 71) (nI 0) C dX5_canBeGiven_71 (by decide) ?_
        exact gl_zret (pc := 72) C dX5_canBeGiven_72 (by rfl) (by grind) (rfl)
      · skip
        replace h45 := gl_bn.mp h45
        refine gl_iload_3 (pc := 48) C dX5_canBeGiven_48 ?_
        refine gl_aload_0 (pc := 49) C dX5_canBeGiven_49 ?_
        refine gl_iload_1 (pc := 50) C dX5_canBeGiven_50 ?_
        refine gl_iconst (pc := 51) (nI 0) C dX5_canBeGiven_51 (by decide) ?_
        refine gl_callVi (pc := 52) (ctX5_ofCar V.1 M c 0 (by omega) (by omega)) C dX5_canBeGiven_52 gX5_canBeGiven_X5_ofCar rfl hdX5_ofCar ⟨rfl, rfl, Nat.le_of_ble_eq_true rfl, Nat.le_of_ble_eq_true rfl⟩ rfl (Nat.le_of_ble_eq_true rfl) rfl rfl rfl ?_
        refine gl_aload_0 (pc := 55) C dX5_canBeGiven_55 ?_
        refine gl_iload_1 (pc := 56) C dX5_canBeGiven_56 ?_
        refine gl_iconst (pc := 57) (nI 1) C dX5_canBeGiven_57 (by decide) ?_
        refine gl_callVi (pc := 58) (ctX5_ofCar V.1 M c 1 (by omega) (by omega)) C dX5_canBeGiven_58 gX5_canBeGiven_X5_ofCar rfl hdX5_ofCar ⟨rfl, rfl, Nat.le_of_ble_eq_true rfl, Nat.le_of_ble_eq_true rfl⟩ rfl (Nat.le_of_ble_eq_true rfl) rfl rfl rfl ?_
        refine gl_callSi (pc := 61) (ctX5_in V.1 LM ok_LM M g (M (iC c 0)) (M (iC c 1))) C dX5_canBeGiven_61 gX5_canBeGiven_X5_in rfl hdX5_in ⟨rfl, rfl, Nat.le_of_ble_eq_true rfl, Nat.le_of_ble_eq_true rfl⟩ rfl (Nat.le_of_ble_eq_true rfl) rfl ?_
        refine gl_ifeq (pc := 64) 71 C dX5_canBeGiven_64 (by decide) (fun h64 => ?_) (fun h64 => ?_)
        · skip
          replace h64 := gl_bz.mp h64
          refine gl_iconst (pc := 71) (nI 0) C dX5_canBeGiven_71 (by decide) ?_
          exact gl_zret (pc := 72) C dX5_canBeGiven_72 (by rfl) (by grind) (rfl)
        · skip
          replace h64 := gl_bn.mp h64
          refine gl_iconst (pc := 67) (nI 1) C dX5_canBeGiven_67 (by decide) ?_
          refine gl_goto (pc := 68) 72 C dX5_canBeGiven_68 (by decide) ?_
          exact gl_zret (pc := 72) C dX5_canBeGiven_72 (by rfl) (by grind) (rfl)
set_option maxRecDepth 100000 in
set_option maxHeartbeats 4000000 in
theorem ctX5_costOf (F : gl_F) {n m t : Nat} {M : Nat → Int32} (w : sp_W n m t M) {c : Nat} (hc : c < m) (f g : Int32) : gl_Ct F LM yX5_costOf wsX5_costOf rmX5_costOf [.ref (gl_r F 0), .int (nI c), .int f, .int g] M (some (.int (sp_cost M c f g n))) (M) := by
  refine gl_met (cc := cX5_costOf) (maxL := 5) (ret := some .int) [some (.ref (gl_r F 0)), some (.int (nI c)), some (.int f), some (.int g), none] (plainFor_of_name (by decide)) rfl ok_LM (by simp [Value.category]) (Nat.le_of_ble_eq_true rfl) rfl (fun V hV C => ?_)
  subst hV
  obtain ⟨hn40, hm5, hn, hm, ht, hcar, hcal⟩ := id w
  refine gl_aload_0 (pc := 0) C dX5_costOf_0 ?_
  refine gl_iload_1 (pc := 1) C dX5_costOf_1 ?_
  refine gl_callVi (pc := 2) (ctX5_stops V.1 hn40 hn (fun k hk => (hcal k hk).2.2.1) (nI c)) C dX5_costOf_2 gX5_costOf_X5_stops rfl hdX5_stops ⟨rfl, rfl, Nat.le_of_ble_eq_true rfl, Nat.le_of_ble_eq_true rfl⟩ rfl (Nat.le_of_ble_eq_true rfl) rfl rfl rfl ?_
  refine gl_iconst (pc := 5) (nI 1) C dX5_costOf_5 (by decide) ?_
  refine gl_iload_2 (pc := 6) C dX5_costOf_6 ?_
  refine gl_ishl (pc := 7) C dX5_costOf_7 ?_
  refine gl_ior (pc := 8) C dX5_costOf_8 ?_
  refine gl_iconst (pc := 9) (nI 1) C dX5_costOf_9 (by decide) ?_
  refine gl_iload_3 (pc := 10) C dX5_costOf_10 ?_
  refine gl_ishl (pc := 11) C dX5_costOf_11 ?_
  refine gl_ior (pc := 12) C dX5_costOf_12 ?_
  refine gl_callSi (pc := 13) (ctX5_ones V.1 M _) C dX5_costOf_13 gX5_costOf_X5_ones rfl hdX5_ones ⟨rfl, rfl, Nat.le_of_ble_eq_true rfl, Nat.le_of_ble_eq_true rfl⟩ rfl (Nat.le_of_ble_eq_true rfl) rfl ?_
  refine gl_istore_4 (pc := 16) C dX5_costOf_16 ?_
  refine gl_aload_0 (pc := 18) C dX5_costOf_18 ?_
  refine gl_iload_1 (pc := 19) C dX5_costOf_19 ?_
  refine gl_iconst (pc := 20) (nI 3) C dX5_costOf_20 (by decide) ?_
  refine gl_callVi (pc := 21) (ctX5_ofCar V.1 M c 3 (by omega) (by omega)) C dX5_costOf_21 gX5_costOf_X5_ofCar rfl hdX5_ofCar ⟨rfl, rfl, Nat.le_of_ble_eq_true rfl, Nat.le_of_ble_eq_true rfl⟩ rfl (Nat.le_of_ble_eq_true rfl) rfl rfl rfl ?_
  refine gl_iload_2 (pc := 24) C dX5_costOf_24 ?_
  refine gl_callSi (pc := 25) (ctX5_far V.1 M _ f) C dX5_costOf_25 gX5_costOf_X5_far rfl hdX5_far ⟨rfl, rfl, Nat.le_of_ble_eq_true rfl, Nat.le_of_ble_eq_true rfl⟩ rfl (Nat.le_of_ble_eq_true rfl) rfl ?_
  refine gl_iconst (pc := 28) (nI 2) C dX5_costOf_28 (by decide) ?_
  refine gl_iload_4 (pc := 29) C dX5_costOf_29 ?_
  first | with_reducible refine gl_imulN (pc := 31) C dX5_costOf_31 ?_ | refine gl_imul (pc := 31) C dX5_costOf_31 ?_
  first | with_reducible refine gl_iaddN (pc := 32) C dX5_costOf_32 ?_ | refine gl_iadd (pc := 32) C dX5_costOf_32 ?_
  refine gl_aload_0 (pc := 33) C dX5_costOf_33 ?_
  refine gl_iload_1 (pc := 34) C dX5_costOf_34 ?_
  refine gl_iconst (pc := 35) (nI 1) C dX5_costOf_35 (by decide) ?_
  refine gl_callVi (pc := 36) (ctX5_many V.1 hn40 hn (nI c) (nI 1)) C dX5_costOf_36 gX5_costOf_X5_many rfl hdX5_many ⟨rfl, rfl, Nat.le_of_ble_eq_true rfl, Nat.le_of_ble_eq_true rfl⟩ rfl (Nat.le_of_ble_eq_true rfl) rfl rfl rfl ?_
  first | with_reducible refine gl_iaddN (pc := 39) C dX5_costOf_39 ?_ | refine gl_iadd (pc := 39) C dX5_costOf_39 ?_
  refine gl_aload_0 (pc := 40) C dX5_costOf_40 ?_
  refine gl_iload_1 (pc := 41) C dX5_costOf_41 ?_
  refine gl_iconst (pc := 42) (nI 2) C dX5_costOf_42 (by decide) ?_
  refine gl_callVi (pc := 43) (ctX5_many V.1 hn40 hn (nI c) (nI 2)) C dX5_costOf_43 gX5_costOf_X5_many rfl hdX5_many ⟨rfl, rfl, Nat.le_of_ble_eq_true rfl, Nat.le_of_ble_eq_true rfl⟩ rfl (Nat.le_of_ble_eq_true rfl) rfl rfl rfl ?_
  first | with_reducible refine gl_iaddN (pc := 46) C dX5_costOf_46 ?_ | refine gl_iadd (pc := 46) C dX5_costOf_46 ?_
  exact gl_iret (pc := 47) C dX5_costOf_47 (by unfold sp_cost sp_bits; rw [Int32.add_assoc (_ + _)]) (rfl)
set_option maxRecDepth 100000 in
set_option maxHeartbeats 4000000 in
theorem ctX5_best (F : gl_F) {n m t : Nat} {M : Nat → Int32} (w : sp_W n m t M) (ht31 : t < 2 ^ 31) (f g : Int32) : gl_Ct F LM yX5_best wsX5_best rmX5_best [.ref (gl_r F 0), .int f, .int g] M (some (.int (sp_best M t f g n m).1)) (M) := by
  refine gl_met (cc := cX5_best) (maxL := 8) (ret := some .int) [some (.ref (gl_r F 0)), some (.int f), some (.int g), none, none, none, none, none] (plainFor_of_name (by decide)) rfl ok_LM (by simp [Value.category]) (Nat.le_of_ble_eq_true rfl) rfl (fun V hV C => ?_)
  subst hV
  obtain ⟨hn40, hm5, hn, hm, ht, hcar, hcal⟩ := id w
  refine gl_bipush (pc := 0) (-9) C dX5_best_0 (by decide +kernel) ?_
  refine gl_istore_3 (pc := 2) C dX5_best_2 ?_
  refine gl_iconst (pc := 3) (nI 0) C dX5_best_3 (by decide) ?_
  refine gl_istore_4 (pc := 4) C dX5_best_4 ?_
  refine gl_iconst (pc := 6) (nI 0) C dX5_best_6 (by decide) ?_
  refine gl_istore_5 (pc := 7) C dX5_best_7 ?_
  refine gl_loop (pc := 9) (n := m) (fun c => [some (.ref (gl_r V.1 0)), some (.int f), some (.int g), some (.int (sp_best M t f g n c).1), some (.int (sp_best M t f g n c).2), some (.int (nI c)), none, none]) (fun c => M) (fun c => True) 0 (Nat.zero_le _) (trivial) (gl_le_c (rfl) (gl_le_c (rfl) (gl_le_c (rfl) (gl_le_c (rfl) (gl_le_c (rfl) (gl_le_c (rfl) (gl_le_o (gl_le_o (gl_le_n))))))))) (rfl) (fun hI => ?_) (fun c hc hI ih => ?_)
  · skip
    refine gl_iload_5 (pc := 9) C dX5_best_9 ?_
    refine gl_aload_0 (pc := 11) C dX5_best_11 ?_
    refine gl_getR (pc := 12) C dX5_best_12 fX5_best_7 rfl rfl ?_
    refine gl_iconst (pc := 15) (nI 1) C dX5_best_15 (by decide) ?_
    refine gl_iald (pc := 16) _ C dX5_best_16 rfl rfl (by omega) ?_
    refine gl_top hm ?_
    refine gl_icmp_ge (pc := 17) 93 C dX5_best_17 (by decide) (fun h17 => ?_) (fun h17 => absurd h17 (gl_xge))
    refine gl_iload_3 (pc := 93) C dX5_best_93 ?_
    exact gl_iret (pc := 94) C dX5_best_94 (rfl) (rfl)
  · skip
    refine gl_iload_5 (pc := 9) C dX5_best_9 ?_
    refine gl_aload_0 (pc := 11) C dX5_best_11 ?_
    refine gl_getR (pc := 12) C dX5_best_12 fX5_best_7 rfl rfl ?_
    refine gl_iconst (pc := 15) (nI 1) C dX5_best_15 (by decide) ?_
    refine gl_iald (pc := 16) _ C dX5_best_16 rfl rfl (by omega) ?_
    refine gl_top hm ?_
    refine gl_icmp_ge (pc := 17) 93 C dX5_best_17 (by decide) (fun h17 => absurd h17 (nI_ge hc (by omega))) (fun h17 => ?_)
    refine gl_aload_0 (pc := 20) C dX5_best_20 ?_
    refine gl_iload_5 (pc := 21) C dX5_best_21 ?_
    refine gl_iload_1 (pc := 23) C dX5_best_23 ?_
    refine gl_iload_2 (pc := 24) C dX5_best_24 ?_
    refine gl_callVi (pc := 25) (ctX5_canBeGiven V.1 w ht31 (by omega) f g) C dX5_best_25 gX5_best_X5_canBeGiven rfl hdX5_canBeGiven ⟨rfl, rfl, Nat.le_of_ble_eq_true rfl, Nat.le_of_ble_eq_true rfl⟩ rfl (Nat.le_of_ble_eq_true rfl) rfl rfl rfl ?_
    refine gl_ifeq (pc := 28) 87 C dX5_best_28 (by decide) (fun h28 => ?_) (fun h28 => ?_)
    · skip
      replace h28 := gl_bz.mp h28
      first | with_reducible refine gl_iincN_5 (pc := 87) gl_i1 C dX5_best_87 ?_ | refine gl_iinc_5 (pc := 87) C dX5_best_87 (gl_inc1 _) ?_
      refine gl_goto (pc := 90) 9 C dX5_best_90 (by decide) ?_
      exact gl_on (ih (trivial)) (gl_le_c (rfl) (gl_le_c (rfl) (gl_le_c (rfl) (gl_le_c (congrArg Value.int (by grind [sp_best])) (gl_le_c (congrArg Value.int (by grind [sp_best])) (gl_le_c (rfl) (gl_le_o (gl_le_o (gl_le_n))))))))) (rfl)
    · skip
      replace h28 := gl_bn.mp h28
      refine gl_aload_0 (pc := 31) C dX5_best_31 ?_
      refine gl_iload_5 (pc := 32) C dX5_best_32 ?_
      refine gl_iload_1 (pc := 34) C dX5_best_34 ?_
      refine gl_iload_2 (pc := 35) C dX5_best_35 ?_
      refine gl_callVi (pc := 36) (ctX5_costOf V.1 w hc f g) C dX5_best_36 gX5_best_X5_costOf rfl hdX5_costOf ⟨rfl, rfl, Nat.le_of_ble_eq_true rfl, Nat.le_of_ble_eq_true rfl⟩ rfl (Nat.le_of_ble_eq_true rfl) rfl rfl rfl ?_
      refine gl_istore_6 (pc := 39) C dX5_best_39 ?_
      refine gl_iload_3 (pc := 41) C dX5_best_41 ?_
      refine gl_bipush (pc := 42) (-9) C dX5_best_42 (by decide +kernel) ?_
      refine gl_icmp_eq (pc := 44) 54 C dX5_best_44 (by decide) (fun h44 => ?_) (fun h44 => ?_)
      · skip
        refine gl_iconst (pc := 54) (nI 1) C dX5_best_54 (by decide) ?_
        refine gl_goto (pc := 55) 59 C dX5_best_55 (by decide) ?_
        refine gl_istore_7 (pc := 59) C dX5_best_59 ?_
        refine gl_iload_7 (pc := 61) C dX5_best_61 ?_
        refine gl_ifeq (pc := 63) 71 C dX5_best_63 (by decide) (fun h63 => absurd h63 (by decide)) (fun h63 => ?_)
        refine gl_iload_5 (pc := 66) C dX5_best_66 ?_
        refine gl_goto (pc := 68) 72 C dX5_best_68 (by decide) ?_
        refine gl_istore_3 (pc := 72) C dX5_best_72 ?_
        refine gl_iload_7 (pc := 73) C dX5_best_73 ?_
        refine gl_ifeq (pc := 75) 83 C dX5_best_75 (by decide) (fun h75 => absurd h75 (by decide)) (fun h75 => ?_)
        refine gl_iload_6 (pc := 78) C dX5_best_78 ?_
        refine gl_goto (pc := 80) 85 C dX5_best_80 (by decide) ?_
        refine gl_istore_4 (pc := 85) C dX5_best_85 ?_
        first | with_reducible refine gl_iincN_5 (pc := 87) gl_i1 C dX5_best_87 ?_ | refine gl_iinc_5 (pc := 87) C dX5_best_87 (gl_inc1 _) ?_
        refine gl_goto (pc := 90) 9 C dX5_best_90 (by decide) ?_
        exact gl_on (ih (trivial)) (gl_le_c (rfl) (gl_le_c (rfl) (gl_le_c (rfl) (gl_le_c (congrArg Value.int (by grind [sp_best])) (gl_le_c (congrArg Value.int (by grind [sp_best])) (gl_le_c (rfl) (gl_le_o (gl_le_o (gl_le_n))))))))) (rfl)
      · skip
        refine gl_iload_6 (pc := 47) C dX5_best_47 ?_
        refine gl_iload_4 (pc := 49) C dX5_best_49 ?_
        refine gl_icmp_ge (pc := 51) 58 C dX5_best_51 (by decide) (fun h51 => ?_) (fun h51 => ?_)
        · skip
          refine gl_iconst (pc := 58) (nI 0) C dX5_best_58 (by decide) ?_
          refine gl_istore_7 (pc := 59) C dX5_best_59 ?_
          refine gl_iload_7 (pc := 61) C dX5_best_61 ?_
          refine gl_ifeq (pc := 63) 71 C dX5_best_63 (by decide) (fun h63 => ?_) (fun h63 => absurd h63 (not_not_intro nI_0'))
          refine gl_iload_3 (pc := 71) C dX5_best_71 ?_
          refine gl_istore_3 (pc := 72) C dX5_best_72 ?_
          refine gl_iload_7 (pc := 73) C dX5_best_73 ?_
          refine gl_ifeq (pc := 75) 83 C dX5_best_75 (by decide) (fun h75 => ?_) (fun h75 => absurd h75 (not_not_intro nI_0'))
          refine gl_iload_4 (pc := 83) C dX5_best_83 ?_
          refine gl_istore_4 (pc := 85) C dX5_best_85 ?_
          first | with_reducible refine gl_iincN_5 (pc := 87) gl_i1 C dX5_best_87 ?_ | refine gl_iinc_5 (pc := 87) C dX5_best_87 (gl_inc1 _) ?_
          refine gl_goto (pc := 90) 9 C dX5_best_90 (by decide) ?_
          exact gl_on (ih (trivial)) (gl_le_c (rfl) (gl_le_c (rfl) (gl_le_c (rfl) (gl_le_c (congrArg Value.int (by grind [sp_best])) (gl_le_c (congrArg Value.int (by grind [sp_best])) (gl_le_c (rfl) (gl_le_o (gl_le_o (gl_le_n))))))))) (rfl)
        · skip
          refine gl_iconst (pc := 54) (nI 1) C dX5_best_54 (by decide) ?_
          refine gl_goto (pc := 55) 59 C dX5_best_55 (by decide) ?_
          refine gl_istore_7 (pc := 59) C dX5_best_59 ?_
          refine gl_iload_7 (pc := 61) C dX5_best_61 ?_
          refine gl_ifeq (pc := 63) 71 C dX5_best_63 (by decide) (fun h63 => absurd h63 (by decide)) (fun h63 => ?_)
          refine gl_iload_5 (pc := 66) C dX5_best_66 ?_
          refine gl_goto (pc := 68) 72 C dX5_best_68 (by decide) ?_
          refine gl_istore_3 (pc := 72) C dX5_best_72 ?_
          refine gl_iload_7 (pc := 73) C dX5_best_73 ?_
          refine gl_ifeq (pc := 75) 83 C dX5_best_75 (by decide) (fun h75 => absurd h75 (by decide)) (fun h75 => ?_)
          refine gl_iload_6 (pc := 78) C dX5_best_78 ?_
          refine gl_goto (pc := 80) 85 C dX5_best_80 (by decide) ?_
          refine gl_istore_4 (pc := 85) C dX5_best_85 ?_
          first | with_reducible refine gl_iincN_5 (pc := 87) gl_i1 C dX5_best_87 ?_ | refine gl_iinc_5 (pc := 87) C dX5_best_87 (gl_inc1 _) ?_
          refine gl_goto (pc := 90) 9 C dX5_best_90 (by decide) ?_
          exact gl_on (ih (trivial)) (gl_le_c (rfl) (gl_le_c (rfl) (gl_le_c (rfl) (gl_le_c (congrArg Value.int (by grind [sp_best])) (gl_le_c (congrArg Value.int (by grind [sp_best])) (gl_le_c (rfl) (gl_le_o (gl_le_o (gl_le_n))))))))) (rfl)
set_option maxRecDepth 100000 in
set_option maxHeartbeats 4000000 in
theorem ctX5_gives (F : gl_F) {n m t : Nat} {M : Nat → Int32} (w : sp_W n m t M) (ht31 : t < 2 ^ 31) (k : Nat) (hk : k < n) : gl_Ct F LM yX5_gives wsX5_gives rmX5_gives [.ref (gl_r F 0), .int (nI k)] M (none) (sp_give M k (sp_best M t (M (iK k 0)) (M (iK k 1)) n m).1) := by
  refine gl_met (cc := cX5_gives) (maxL := 3) (ret := none) [some (.ref (gl_r F 0)), some (.int (nI k)), none] (plainFor_of_name (by decide)) rfl ok_LM (by simp [Value.category]) (Nat.le_of_ble_eq_true rfl) rfl (fun V hV C => ?_)
  subst hV
  obtain ⟨hn40, hm5, hn, hm, ht, hcar, hcal⟩ := id w
  refine gl_aload_0 (pc := 0) C dX5_gives_0 ?_
  refine gl_aload_0 (pc := 1) C dX5_gives_1 ?_
  refine gl_iload_1 (pc := 2) C dX5_gives_2 ?_
  refine gl_iconst (pc := 3) (nI 0) C dX5_gives_3 (by decide) ?_
  refine gl_callVi (pc := 4) (ctX5_ofCaller V.1 M k 0 (by omega) (by omega)) C dX5_gives_4 gX5_gives_X5_ofCaller rfl hdX5_ofCaller ⟨rfl, rfl, Nat.le_of_ble_eq_true rfl, Nat.le_of_ble_eq_true rfl⟩ rfl (Nat.le_of_ble_eq_true rfl) rfl rfl rfl ?_
  refine gl_aload_0 (pc := 7) C dX5_gives_7 ?_
  refine gl_iload_1 (pc := 8) C dX5_gives_8 ?_
  refine gl_iconst (pc := 9) (nI 1) C dX5_gives_9 (by decide) ?_
  refine gl_callVi (pc := 10) (ctX5_ofCaller V.1 M k 1 (by omega) (by omega)) C dX5_gives_10 gX5_gives_X5_ofCaller rfl hdX5_ofCaller ⟨rfl, rfl, Nat.le_of_ble_eq_true rfl, Nat.le_of_ble_eq_true rfl⟩ rfl (Nat.le_of_ble_eq_true rfl) rfl rfl rfl ?_
  refine gl_callVi (pc := 13) (ctX5_best V.1 w ht31 _ _) C dX5_gives_13 gX5_gives_X5_best rfl hdX5_best ⟨rfl, rfl, Nat.le_of_ble_eq_true rfl, Nat.le_of_ble_eq_true rfl⟩ rfl (Nat.le_of_ble_eq_true rfl) rfl rfl rfl ?_
  refine gl_istore_2 (pc := 16) C dX5_gives_16 ?_
  refine gl_iload_2 (pc := 17) C dX5_gives_17 ?_
  refine gl_bipush (pc := 18) (-9) C dX5_gives_18 (by decide +kernel) ?_
  refine gl_icmp_eq (pc := 20) 53 C dX5_gives_20 (by decide) (fun h20 => ?_) (fun h20 => ?_)
  · skip
    exact gl_vret (pc := 53) C dX5_gives_53 (by rw [sp_give, if_pos h20])
  · skip
    refine gl_aload_0 (pc := 23) C dX5_gives_23 ?_
    refine gl_iload_1 (pc := 24) C dX5_gives_24 ?_
    refine gl_iconst (pc := 25) (nI 2) C dX5_gives_25 (by decide) ?_
    refine gl_iconst (pc := 26) (nI 1) C dX5_gives_26 (by decide) ?_
    refine gl_callVv (pc := 27) (ctX5_puts V.1 M k 2 (by omega) (by omega) _) C dX5_gives_27 gX5_gives_X5_puts rfl hdX5_puts ⟨rfl, rfl, Nat.le_of_ble_eq_true rfl, Nat.le_of_ble_eq_true rfl⟩ rfl (Nat.le_of_ble_eq_true rfl) rfl rfl rfl ?_
    refine gl_aload_0 (pc := 30) C dX5_gives_30 ?_
    refine gl_iload_1 (pc := 31) C dX5_gives_31 ?_
    refine gl_iconst (pc := 32) (nI 3) C dX5_gives_32 (by decide) ?_
    refine gl_iload_2 (pc := 33) C dX5_gives_33 ?_
    refine gl_callVv (pc := 34) (ctX5_puts V.1 _ k 3 (by omega) (by omega) _) C dX5_gives_34 gX5_gives_X5_puts rfl hdX5_puts ⟨rfl, rfl, Nat.le_of_ble_eq_true rfl, Nat.le_of_ble_eq_true rfl⟩ rfl (Nat.le_of_ble_eq_true rfl) rfl rfl rfl ?_
    refine gl_aload_0 (pc := 37) C dX5_gives_37 ?_
    refine gl_iload_1 (pc := 38) C dX5_gives_38 ?_
    refine gl_bipush (pc := 39) (nI 7) C dX5_gives_39 (by decide +kernel) ?_
    refine gl_aload_0 (pc := 41) C dX5_gives_41 ?_
    refine gl_iload_1 (pc := 42) C dX5_gives_42 ?_
    refine gl_bipush (pc := 43) (nI 7) C dX5_gives_43 (by decide +kernel) ?_
    refine gl_callVi (pc := 45) (ctX5_ofCaller V.1 _ k 7 (by omega) (by omega)) C dX5_gives_45 gX5_gives_X5_ofCaller rfl hdX5_ofCaller ⟨rfl, rfl, Nat.le_of_ble_eq_true rfl, Nat.le_of_ble_eq_true rfl⟩ rfl (Nat.le_of_ble_eq_true rfl) rfl rfl rfl ?_
    refine gl_top ((rK (by omega) (by omega) (by omega)).trans (rK (by omega) (by omega) (by omega))) ?_
    refine gl_iconst (pc := 48) (nI 1) C dX5_gives_48 (by decide) ?_
    first | with_reducible refine gl_iaddN (pc := 49) C dX5_gives_49 ?_ | refine gl_iadd (pc := 49) C dX5_gives_49 ?_
    refine gl_callVv (pc := 50) (ctX5_puts V.1 _ k 7 (by omega) (by omega) _) C dX5_gives_50 gX5_gives_X5_puts rfl hdX5_puts ⟨rfl, rfl, Nat.le_of_ble_eq_true rfl, Nat.le_of_ble_eq_true rfl⟩ rfl (Nat.le_of_ble_eq_true rfl) rfl rfl rfl ?_
    exact gl_vret (pc := 53) C dX5_gives_53 (by rw [sp_give, if_neg h20])
set_option maxRecDepth 100000 in
set_option maxHeartbeats 4000000 in
theorem ctX5_aim (F : gl_F) {n m t : Nat} {M : Nat → Int32} (w : sp_W n m t M) (c : Nat) (hc : c < m) : gl_Ct F LM yX5_aim wsX5_aim rmX5_aim [.ref (gl_r F 0), .int (nI c)] M (some (.int (sp_aim M (nI c) (M (iC c 3)) n))) (M) := by
  refine gl_met (cc := cX5_aim) (maxL := 8) (ret := some .int) [some (.ref (gl_r F 0)), some (.int (nI c)), none, none, none, none, none, none] (plainFor_of_name (by decide)) rfl ok_LM (by simp [Value.category]) (Nat.le_of_ble_eq_true rfl) rfl (fun V hV C => ?_)
  subst hV
  obtain ⟨hn40, hm5, hn, hm, ht, hcar, hcal⟩ := id w
  have hg : ∀ k, k < n → sp_fl (M (iK k 1)) := fun k hk => (hcal k hk).2.1
  have hfl := (hcar c hc).2.2.1
  refine gl_aload_0 (pc := 0) C dX5_aim_0 ?_
  refine gl_iload_1 (pc := 1) C dX5_aim_1 ?_
  refine gl_iconst (pc := 2) (nI 3) C dX5_aim_2 (by decide) ?_
  refine gl_callVi (pc := 3) (ctX5_ofCar V.1 M c 3 (by omega) (by omega)) C dX5_aim_3 gX5_aim_X5_ofCar rfl hdX5_ofCar ⟨rfl, rfl, Nat.le_of_ble_eq_true rfl, Nat.le_of_ble_eq_true rfl⟩ rfl (Nat.le_of_ble_eq_true rfl) rfl rfl rfl ?_
  refine gl_istore_2 (pc := 6) C dX5_aim_6 ?_
  refine gl_bipush (pc := 7) (-9) C dX5_aim_7 (by decide +kernel) ?_
  refine gl_istore_3 (pc := 9) C dX5_aim_9 ?_
  refine gl_bipush (pc := 10) (-9) C dX5_aim_10 (by decide +kernel) ?_
  refine gl_istore_4 (pc := 12) C dX5_aim_12 ?_
  refine gl_iconst (pc := 14) (nI 0) C dX5_aim_14 (by decide) ?_
  refine gl_istore_5 (pc := 15) C dX5_aim_15 ?_
  refine gl_loop (pc := 17) (n := n) (fun k => [some (.ref (gl_r V.1 0)), some (.int (nI c)), some (.int (M (iC c 3))), some (.int (sp_aims M (nI c) (M (iC c 3)) k).1), some (.int (sp_aims M (nI c) (M (iC c 3)) k).2), some (.int (nI k)), none, none]) (fun k => M) (fun k => True) 0 (Nat.zero_le _) (trivial) (gl_le_c (rfl) (gl_le_c (rfl) (gl_le_c (rfl) (gl_le_c (rfl) (gl_le_c (rfl) (gl_le_c (rfl) (gl_le_o (gl_le_o (gl_le_n))))))))) (rfl) (fun hI => ?_) (fun k hk hI ih => ?_)
  · skip
    refine gl_iload_5 (pc := 17) C dX5_aim_17 ?_
    refine gl_aload_0 (pc := 19) C dX5_aim_19 ?_
    refine gl_getR (pc := 20) C dX5_aim_20 fX5_aim_7 rfl rfl ?_
    refine gl_iconst (pc := 23) (nI 2) C dX5_aim_23 (by decide) ?_
    refine gl_iald (pc := 24) _ C dX5_aim_24 rfl rfl (by omega) ?_
    refine gl_top hn ?_
    refine gl_icmp_ge (pc := 25) 155 C dX5_aim_25 (by decide) (fun h25 => ?_) (fun h25 => absurd h25 (gl_xge))
    refine gl_iload_3 (pc := 155) C dX5_aim_155 ?_
    refine gl_bipush (pc := 156) (-9) C dX5_aim_156 (by decide +kernel) ?_
    refine gl_icmp_ne (pc := 158) 166 C dX5_aim_158 (by decide) (fun h158 => ?_) (fun h158 => ?_)
    · skip
      refine gl_iload_3 (pc := 166) C dX5_aim_166 ?_
      exact gl_iret (pc := 167) C dX5_aim_167 (by simp [sp_aim, *]) (rfl)
    · skip
      refine gl_iload_4 (pc := 161) C dX5_aim_161 ?_
      refine gl_goto (pc := 163) 167 C dX5_aim_163 (by decide) ?_
      exact gl_iret (pc := 167) C dX5_aim_167 (by simp [sp_aim, *]) (rfl)
  · skip
    refine gl_iload_5 (pc := 17) C dX5_aim_17 ?_
    refine gl_aload_0 (pc := 19) C dX5_aim_19 ?_
    refine gl_getR (pc := 20) C dX5_aim_20 fX5_aim_7 rfl rfl ?_
    refine gl_iconst (pc := 23) (nI 2) C dX5_aim_23 (by decide) ?_
    refine gl_iald (pc := 24) _ C dX5_aim_24 rfl rfl (by omega) ?_
    refine gl_top hn ?_
    refine gl_icmp_ge (pc := 25) 155 C dX5_aim_25 (by decide) (fun h25 => absurd h25 (nI_ge hk (by omega))) (fun h25 => ?_)
    refine gl_aload_0 (pc := 28) C dX5_aim_28 ?_
    refine gl_iload_5 (pc := 29) C dX5_aim_29 ?_
    refine gl_iconst (pc := 31) (nI 3) C dX5_aim_31 (by decide) ?_
    refine gl_callVi (pc := 32) (ctX5_ofCaller V.1 M k 3 (by omega) (by omega)) C dX5_aim_32 gX5_aim_X5_ofCaller rfl hdX5_ofCaller ⟨rfl, rfl, Nat.le_of_ble_eq_true rfl, Nat.le_of_ble_eq_true rfl⟩ rfl (Nat.le_of_ble_eq_true rfl) rfl rfl rfl ?_
    refine gl_iload_1 (pc := 35) C dX5_aim_35 ?_
    refine gl_icmp_ne (pc := 36) 106 C dX5_aim_36 (by decide) (fun h36 => ?_) (fun h36 => ?_)
    · skip
      refine gl_iload_4 (pc := 106) C dX5_aim_106 ?_
      refine gl_bipush (pc := 108) (-9) C dX5_aim_108 (by decide +kernel) ?_
      refine gl_icmp_ne (pc := 110) 145 C dX5_aim_110 (by decide) (fun h110 => ?_) (fun h110 => ?_)
      · skip
        refine gl_iload_4 (pc := 145) C dX5_aim_145 ?_
        refine gl_istore_4 (pc := 147) C dX5_aim_147 ?_
        first | with_reducible refine gl_iincN_5 (pc := 149) gl_i1 C dX5_aim_149 ?_ | refine gl_iinc_5 (pc := 149) C dX5_aim_149 (gl_inc1 _) ?_
        refine gl_goto (pc := 152) 17 C dX5_aim_152 (by decide) ?_
        exact gl_on (ih (trivial)) (gl_le_c (rfl) (gl_le_c (rfl) (gl_le_c (rfl) (gl_le_c (congrArg Value.int (by grind [sp_aims, n12, n21])) (gl_le_c (congrArg Value.int (by grind [sp_aims, n12, n21])) (gl_le_c (rfl) (gl_le_o (gl_le_o (gl_le_n))))))))) (rfl)
      · skip
        refine gl_aload_0 (pc := 113) C dX5_aim_113 ?_
        refine gl_iload_5 (pc := 114) C dX5_aim_114 ?_
        refine gl_iconst (pc := 116) (nI 3) C dX5_aim_116 (by decide) ?_
        refine gl_callVi (pc := 117) (ctX5_ofCaller V.1 M k 3 (by omega) (by omega)) C dX5_aim_117 gX5_aim_X5_ofCaller rfl hdX5_ofCaller ⟨rfl, rfl, Nat.le_of_ble_eq_true rfl, Nat.le_of_ble_eq_true rfl⟩ rfl (Nat.le_of_ble_eq_true rfl) rfl rfl rfl ?_
        refine gl_iload_1 (pc := 120) C dX5_aim_120 ?_
        refine gl_icmp_ne (pc := 121) 145 C dX5_aim_121 (by decide) (fun h121 => ?_) (fun h121 => ?_)
        · skip
          refine gl_iload_4 (pc := 145) C dX5_aim_145 ?_
          refine gl_istore_4 (pc := 147) C dX5_aim_147 ?_
          first | with_reducible refine gl_iincN_5 (pc := 149) gl_i1 C dX5_aim_149 ?_ | refine gl_iinc_5 (pc := 149) C dX5_aim_149 (gl_inc1 _) ?_
          refine gl_goto (pc := 152) 17 C dX5_aim_152 (by decide) ?_
          exact gl_on (ih (trivial)) (gl_le_c (rfl) (gl_le_c (rfl) (gl_le_c (rfl) (gl_le_c (congrArg Value.int (by grind [sp_aims, n12, n21])) (gl_le_c (congrArg Value.int (by grind [sp_aims, n12, n21])) (gl_le_c (rfl) (gl_le_o (gl_le_o (gl_le_n))))))))) (rfl)
        · skip
          refine gl_aload_0 (pc := 124) C dX5_aim_124 ?_
          refine gl_iload_5 (pc := 125) C dX5_aim_125 ?_
          refine gl_iconst (pc := 127) (nI 2) C dX5_aim_127 (by decide) ?_
          refine gl_callVi (pc := 128) (ctX5_ofCaller V.1 M k 2 (by omega) (by omega)) C dX5_aim_128 gX5_aim_X5_ofCaller rfl hdX5_ofCaller ⟨rfl, rfl, Nat.le_of_ble_eq_true rfl, Nat.le_of_ble_eq_true rfl⟩ rfl (Nat.le_of_ble_eq_true rfl) rfl rfl rfl ?_
          refine gl_iconst (pc := 131) (nI 1) C dX5_aim_131 (by decide) ?_
          refine gl_icmp_ne (pc := 132) 145 C dX5_aim_132 (by decide) (fun h132 => ?_) (fun h132 => ?_)
          · skip
            refine gl_iload_4 (pc := 145) C dX5_aim_145 ?_
            refine gl_istore_4 (pc := 147) C dX5_aim_147 ?_
            first | with_reducible refine gl_iincN_5 (pc := 149) gl_i1 C dX5_aim_149 ?_ | refine gl_iinc_5 (pc := 149) C dX5_aim_149 (gl_inc1 _) ?_
            refine gl_goto (pc := 152) 17 C dX5_aim_152 (by decide) ?_
            exact gl_on (ih (trivial)) (gl_le_c (rfl) (gl_le_c (rfl) (gl_le_c (rfl) (gl_le_c (congrArg Value.int (by grind [sp_aims, n12, n21])) (gl_le_c (congrArg Value.int (by grind [sp_aims, n12, n21])) (gl_le_c (rfl) (gl_le_o (gl_le_o (gl_le_n))))))))) (rfl)
          · skip
            refine gl_aload_0 (pc := 135) C dX5_aim_135 ?_
            refine gl_iload_5 (pc := 136) C dX5_aim_136 ?_
            refine gl_iconst (pc := 138) (nI 0) C dX5_aim_138 (by decide) ?_
            refine gl_callVi (pc := 139) (ctX5_ofCaller V.1 M k 0 (by omega) (by omega)) C dX5_aim_139 gX5_aim_X5_ofCaller rfl hdX5_ofCaller ⟨rfl, rfl, Nat.le_of_ble_eq_true rfl, Nat.le_of_ble_eq_true rfl⟩ rfl (Nat.le_of_ble_eq_true rfl) rfl rfl rfl ?_
            refine gl_goto (pc := 142) 147 C dX5_aim_142 (by decide) ?_
            refine gl_istore_4 (pc := 147) C dX5_aim_147 ?_
            first | with_reducible refine gl_iincN_5 (pc := 149) gl_i1 C dX5_aim_149 ?_ | refine gl_iinc_5 (pc := 149) C dX5_aim_149 (gl_inc1 _) ?_
            refine gl_goto (pc := 152) 17 C dX5_aim_152 (by decide) ?_
            exact gl_on (ih (trivial)) (gl_le_c (rfl) (gl_le_c (rfl) (gl_le_c (rfl) (gl_le_c (congrArg Value.int (by grind [sp_aims, n12, n21])) (gl_le_c (congrArg Value.int (by grind [sp_aims, n12, n21])) (gl_le_c (rfl) (gl_le_o (gl_le_o (gl_le_n))))))))) (rfl)
    · skip
      refine gl_aload_0 (pc := 39) C dX5_aim_39 ?_
      refine gl_iload_5 (pc := 40) C dX5_aim_40 ?_
      refine gl_iconst (pc := 42) (nI 2) C dX5_aim_42 (by decide) ?_
      refine gl_callVi (pc := 43) (ctX5_ofCaller V.1 M k 2 (by omega) (by omega)) C dX5_aim_43 gX5_aim_X5_ofCaller rfl hdX5_ofCaller ⟨rfl, rfl, Nat.le_of_ble_eq_true rfl, Nat.le_of_ble_eq_true rfl⟩ rfl (Nat.le_of_ble_eq_true rfl) rfl rfl rfl ?_
      refine gl_iconst (pc := 46) (nI 2) C dX5_aim_46 (by decide) ?_
      refine gl_icmp_ne (pc := 47) 106 C dX5_aim_47 (by decide) (fun h47 => ?_) (fun h47 => ?_)
      · skip
        refine gl_iload_4 (pc := 106) C dX5_aim_106 ?_
        refine gl_bipush (pc := 108) (-9) C dX5_aim_108 (by decide +kernel) ?_
        refine gl_icmp_ne (pc := 110) 145 C dX5_aim_110 (by decide) (fun h110 => ?_) (fun h110 => ?_)
        · skip
          refine gl_iload_4 (pc := 145) C dX5_aim_145 ?_
          refine gl_istore_4 (pc := 147) C dX5_aim_147 ?_
          first | with_reducible refine gl_iincN_5 (pc := 149) gl_i1 C dX5_aim_149 ?_ | refine gl_iinc_5 (pc := 149) C dX5_aim_149 (gl_inc1 _) ?_
          refine gl_goto (pc := 152) 17 C dX5_aim_152 (by decide) ?_
          exact gl_on (ih (trivial)) (gl_le_c (rfl) (gl_le_c (rfl) (gl_le_c (rfl) (gl_le_c (congrArg Value.int (by grind [sp_aims, n12, n21])) (gl_le_c (congrArg Value.int (by grind [sp_aims, n12, n21])) (gl_le_c (rfl) (gl_le_o (gl_le_o (gl_le_n))))))))) (rfl)
        · skip
          refine gl_aload_0 (pc := 113) C dX5_aim_113 ?_
          refine gl_iload_5 (pc := 114) C dX5_aim_114 ?_
          refine gl_iconst (pc := 116) (nI 3) C dX5_aim_116 (by decide) ?_
          refine gl_callVi (pc := 117) (ctX5_ofCaller V.1 M k 3 (by omega) (by omega)) C dX5_aim_117 gX5_aim_X5_ofCaller rfl hdX5_ofCaller ⟨rfl, rfl, Nat.le_of_ble_eq_true rfl, Nat.le_of_ble_eq_true rfl⟩ rfl (Nat.le_of_ble_eq_true rfl) rfl rfl rfl ?_
          refine gl_iload_1 (pc := 120) C dX5_aim_120 ?_
          refine gl_icmp_ne (pc := 121) 145 C dX5_aim_121 (by decide) (fun h121 => ?_) (fun h121 => ?_)
          · skip
            refine gl_iload_4 (pc := 145) C dX5_aim_145 ?_
            refine gl_istore_4 (pc := 147) C dX5_aim_147 ?_
            first | with_reducible refine gl_iincN_5 (pc := 149) gl_i1 C dX5_aim_149 ?_ | refine gl_iinc_5 (pc := 149) C dX5_aim_149 (gl_inc1 _) ?_
            refine gl_goto (pc := 152) 17 C dX5_aim_152 (by decide) ?_
            exact gl_on (ih (trivial)) (gl_le_c (rfl) (gl_le_c (rfl) (gl_le_c (rfl) (gl_le_c (congrArg Value.int (by grind [sp_aims, n12, n21])) (gl_le_c (congrArg Value.int (by grind [sp_aims, n12, n21])) (gl_le_c (rfl) (gl_le_o (gl_le_o (gl_le_n))))))))) (rfl)
          · skip
            refine gl_aload_0 (pc := 124) C dX5_aim_124 ?_
            refine gl_iload_5 (pc := 125) C dX5_aim_125 ?_
            refine gl_iconst (pc := 127) (nI 2) C dX5_aim_127 (by decide) ?_
            refine gl_callVi (pc := 128) (ctX5_ofCaller V.1 M k 2 (by omega) (by omega)) C dX5_aim_128 gX5_aim_X5_ofCaller rfl hdX5_ofCaller ⟨rfl, rfl, Nat.le_of_ble_eq_true rfl, Nat.le_of_ble_eq_true rfl⟩ rfl (Nat.le_of_ble_eq_true rfl) rfl rfl rfl ?_
            refine gl_iconst (pc := 131) (nI 1) C dX5_aim_131 (by decide) ?_
            refine gl_icmp_ne (pc := 132) 145 C dX5_aim_132 (by decide) (fun h132 => ?_) (fun h132 => ?_)
            · skip
              refine gl_iload_4 (pc := 145) C dX5_aim_145 ?_
              refine gl_istore_4 (pc := 147) C dX5_aim_147 ?_
              first | with_reducible refine gl_iincN_5 (pc := 149) gl_i1 C dX5_aim_149 ?_ | refine gl_iinc_5 (pc := 149) C dX5_aim_149 (gl_inc1 _) ?_
              refine gl_goto (pc := 152) 17 C dX5_aim_152 (by decide) ?_
              exact gl_on (ih (trivial)) (gl_le_c (rfl) (gl_le_c (rfl) (gl_le_c (rfl) (gl_le_c (congrArg Value.int (by grind [sp_aims, n12, n21])) (gl_le_c (congrArg Value.int (by grind [sp_aims, n12, n21])) (gl_le_c (rfl) (gl_le_o (gl_le_o (gl_le_n))))))))) (rfl)
            · skip
              refine gl_aload_0 (pc := 135) C dX5_aim_135 ?_
              refine gl_iload_5 (pc := 136) C dX5_aim_136 ?_
              refine gl_iconst (pc := 138) (nI 0) C dX5_aim_138 (by decide) ?_
              refine gl_callVi (pc := 139) (ctX5_ofCaller V.1 M k 0 (by omega) (by omega)) C dX5_aim_139 gX5_aim_X5_ofCaller rfl hdX5_ofCaller ⟨rfl, rfl, Nat.le_of_ble_eq_true rfl, Nat.le_of_ble_eq_true rfl⟩ rfl (Nat.le_of_ble_eq_true rfl) rfl rfl rfl ?_
              refine gl_goto (pc := 142) 147 C dX5_aim_142 (by decide) ?_
              refine gl_istore_4 (pc := 147) C dX5_aim_147 ?_
              first | with_reducible refine gl_iincN_5 (pc := 149) gl_i1 C dX5_aim_149 ?_ | refine gl_iinc_5 (pc := 149) C dX5_aim_149 (gl_inc1 _) ?_
              refine gl_goto (pc := 152) 17 C dX5_aim_152 (by decide) ?_
              exact gl_on (ih (trivial)) (gl_le_c (rfl) (gl_le_c (rfl) (gl_le_c (rfl) (gl_le_c (congrArg Value.int (by grind [sp_aims, n12, n21])) (gl_le_c (congrArg Value.int (by grind [sp_aims, n12, n21])) (gl_le_c (rfl) (gl_le_o (gl_le_o (gl_le_n))))))))) (rfl)
      · skip
        refine gl_aload_0 (pc := 50) C dX5_aim_50 ?_
        refine gl_iload_5 (pc := 51) C dX5_aim_51 ?_
        refine gl_iconst (pc := 53) (nI 1) C dX5_aim_53 (by decide) ?_
        refine gl_callVi (pc := 54) (ctX5_ofCaller V.1 M k 1 (by omega) (by omega)) C dX5_aim_54 gX5_aim_X5_ofCaller rfl hdX5_ofCaller ⟨rfl, rfl, Nat.le_of_ble_eq_true rfl, Nat.le_of_ble_eq_true rfl⟩ rfl (Nat.le_of_ble_eq_true rfl) rfl rfl rfl ?_
        refine gl_istore_6 (pc := 57) C dX5_aim_57 ?_
        refine gl_iload_3 (pc := 59) C dX5_aim_59 ?_
        refine gl_bipush (pc := 60) (-9) C dX5_aim_60 (by decide +kernel) ?_
        refine gl_icmp_ne (pc := 62) 69 C dX5_aim_62 (by decide) (fun h62 => ?_) (fun h62 => ?_)
        · skip
          refine gl_iload_6 (pc := 69) C dX5_aim_69 ?_
          refine gl_iload_2 (pc := 71) C dX5_aim_71 ?_
          refine gl_callSi (pc := 72) (ctX5_far V.1 M _ _) C dX5_aim_72 gX5_aim_X5_far rfl hdX5_far ⟨rfl, rfl, Nat.le_of_ble_eq_true rfl, Nat.le_of_ble_eq_true rfl⟩ rfl (Nat.le_of_ble_eq_true rfl) rfl ?_
          refine gl_iload_3 (pc := 75) C dX5_aim_75 ?_
          refine gl_iload_2 (pc := 76) C dX5_aim_76 ?_
          refine gl_callSi (pc := 77) (ctX5_far V.1 M _ _) C dX5_aim_77 gX5_aim_X5_far rfl hdX5_far ⟨rfl, rfl, Nat.le_of_ble_eq_true rfl, Nat.le_of_ble_eq_true rfl⟩ rfl (Nat.le_of_ble_eq_true rfl) rfl ?_
          refine gl_isub (pc := 80) C dX5_aim_80 ?_
          refine gl_istore_7 (pc := 81) C dX5_aim_81 ?_
          refine gl_iload_7 (pc := 83) C dX5_aim_83 ?_
          refine gl_iflt (pc := 85) 99 C dX5_aim_85 (by decide) (fun h85 => ?_) (fun h85 => ?_)
          · skip
            replace h85 := (sp_far_lt (hg k hk) ((sp_aims_ok hg k (by omega)).resolve_left h62) hfl).1.mp h85
            refine gl_iload_6 (pc := 99) C dX5_aim_99 ?_
            refine gl_goto (pc := 101) 105 C dX5_aim_101 (by decide) ?_
            refine gl_istore_3 (pc := 105) C dX5_aim_105 ?_
            refine gl_iload_4 (pc := 106) C dX5_aim_106 ?_
            refine gl_bipush (pc := 108) (-9) C dX5_aim_108 (by decide +kernel) ?_
            refine gl_icmp_ne (pc := 110) 145 C dX5_aim_110 (by decide) (fun h110 => ?_) (fun h110 => ?_)
            · skip
              refine gl_iload_4 (pc := 145) C dX5_aim_145 ?_
              refine gl_istore_4 (pc := 147) C dX5_aim_147 ?_
              first | with_reducible refine gl_iincN_5 (pc := 149) gl_i1 C dX5_aim_149 ?_ | refine gl_iinc_5 (pc := 149) C dX5_aim_149 (gl_inc1 _) ?_
              refine gl_goto (pc := 152) 17 C dX5_aim_152 (by decide) ?_
              exact gl_on (ih (trivial)) (gl_le_c (rfl) (gl_le_c (rfl) (gl_le_c (rfl) (gl_le_c (congrArg Value.int (by grind [sp_aims, n12, n21])) (gl_le_c (congrArg Value.int (by grind [sp_aims, n12, n21])) (gl_le_c (rfl) (gl_le_o (gl_le_o (gl_le_n))))))))) (rfl)
            · skip
              refine gl_aload_0 (pc := 113) C dX5_aim_113 ?_
              refine gl_iload_5 (pc := 114) C dX5_aim_114 ?_
              refine gl_iconst (pc := 116) (nI 3) C dX5_aim_116 (by decide) ?_
              refine gl_callVi (pc := 117) (ctX5_ofCaller V.1 M k 3 (by omega) (by omega)) C dX5_aim_117 gX5_aim_X5_ofCaller rfl hdX5_ofCaller ⟨rfl, rfl, Nat.le_of_ble_eq_true rfl, Nat.le_of_ble_eq_true rfl⟩ rfl (Nat.le_of_ble_eq_true rfl) rfl rfl rfl ?_
              refine gl_iload_1 (pc := 120) C dX5_aim_120 ?_
              refine gl_icmp_ne (pc := 121) 145 C dX5_aim_121 (by decide) (fun h121 => ?_) (fun h121 => ?_)
              · skip
                refine gl_iload_4 (pc := 145) C dX5_aim_145 ?_
                refine gl_istore_4 (pc := 147) C dX5_aim_147 ?_
                first | with_reducible refine gl_iincN_5 (pc := 149) gl_i1 C dX5_aim_149 ?_ | refine gl_iinc_5 (pc := 149) C dX5_aim_149 (gl_inc1 _) ?_
                refine gl_goto (pc := 152) 17 C dX5_aim_152 (by decide) ?_
                exact gl_on (ih (trivial)) (gl_le_c (rfl) (gl_le_c (rfl) (gl_le_c (rfl) (gl_le_c (congrArg Value.int (by grind [sp_aims, n12, n21])) (gl_le_c (congrArg Value.int (by grind [sp_aims, n12, n21])) (gl_le_c (rfl) (gl_le_o (gl_le_o (gl_le_n))))))))) (rfl)
              · skip
                refine gl_aload_0 (pc := 124) C dX5_aim_124 ?_
                refine gl_iload_5 (pc := 125) C dX5_aim_125 ?_
                refine gl_iconst (pc := 127) (nI 2) C dX5_aim_127 (by decide) ?_
                refine gl_callVi (pc := 128) (ctX5_ofCaller V.1 M k 2 (by omega) (by omega)) C dX5_aim_128 gX5_aim_X5_ofCaller rfl hdX5_ofCaller ⟨rfl, rfl, Nat.le_of_ble_eq_true rfl, Nat.le_of_ble_eq_true rfl⟩ rfl (Nat.le_of_ble_eq_true rfl) rfl rfl rfl ?_
                refine gl_iconst (pc := 131) (nI 1) C dX5_aim_131 (by decide) ?_
                refine gl_icmp_ne (pc := 132) 145 C dX5_aim_132 (by decide) (fun h132 => ?_) (fun h132 => ?_)
                · skip
                  refine gl_iload_4 (pc := 145) C dX5_aim_145 ?_
                  refine gl_istore_4 (pc := 147) C dX5_aim_147 ?_
                  first | with_reducible refine gl_iincN_5 (pc := 149) gl_i1 C dX5_aim_149 ?_ | refine gl_iinc_5 (pc := 149) C dX5_aim_149 (gl_inc1 _) ?_
                  refine gl_goto (pc := 152) 17 C dX5_aim_152 (by decide) ?_
                  exact gl_on (ih (trivial)) (gl_le_c (rfl) (gl_le_c (rfl) (gl_le_c (rfl) (gl_le_c (congrArg Value.int (by grind [sp_aims, n12, n21])) (gl_le_c (congrArg Value.int (by grind [sp_aims, n12, n21])) (gl_le_c (rfl) (gl_le_o (gl_le_o (gl_le_n))))))))) (rfl)
                · skip
                  refine gl_aload_0 (pc := 135) C dX5_aim_135 ?_
                  refine gl_iload_5 (pc := 136) C dX5_aim_136 ?_
                  refine gl_iconst (pc := 138) (nI 0) C dX5_aim_138 (by decide) ?_
                  refine gl_callVi (pc := 139) (ctX5_ofCaller V.1 M k 0 (by omega) (by omega)) C dX5_aim_139 gX5_aim_X5_ofCaller rfl hdX5_ofCaller ⟨rfl, rfl, Nat.le_of_ble_eq_true rfl, Nat.le_of_ble_eq_true rfl⟩ rfl (Nat.le_of_ble_eq_true rfl) rfl rfl rfl ?_
                  refine gl_goto (pc := 142) 147 C dX5_aim_142 (by decide) ?_
                  refine gl_istore_4 (pc := 147) C dX5_aim_147 ?_
                  first | with_reducible refine gl_iincN_5 (pc := 149) gl_i1 C dX5_aim_149 ?_ | refine gl_iinc_5 (pc := 149) C dX5_aim_149 (gl_inc1 _) ?_
                  refine gl_goto (pc := 152) 17 C dX5_aim_152 (by decide) ?_
                  exact gl_on (ih (trivial)) (gl_le_c (rfl) (gl_le_c (rfl) (gl_le_c (rfl) (gl_le_c (congrArg Value.int (by grind [sp_aims, n12, n21])) (gl_le_c (congrArg Value.int (by grind [sp_aims, n12, n21])) (gl_le_c (rfl) (gl_le_o (gl_le_o (gl_le_n))))))))) (rfl)
          · skip
            replace h85 := fun q => h85 ((sp_far_lt (hg k hk) ((sp_aims_ok hg k (by omega)).resolve_left h62) hfl).1.mpr q)
            refine gl_iload_7 (pc := 88) C dX5_aim_88 ?_
            refine gl_ifne (pc := 90) 104 C dX5_aim_90 (by decide) (fun h90 => ?_) (fun h90 => ?_)
            · skip
              replace h90 := fun q => h90 ((sp_far_lt (hg k hk) ((sp_aims_ok hg k (by omega)).resolve_left h62) hfl).2.mpr q)
              refine gl_iload_3 (pc := 104) C dX5_aim_104 ?_
              refine gl_istore_3 (pc := 105) C dX5_aim_105 ?_
              refine gl_iload_4 (pc := 106) C dX5_aim_106 ?_
              refine gl_bipush (pc := 108) (-9) C dX5_aim_108 (by decide +kernel) ?_
              refine gl_icmp_ne (pc := 110) 145 C dX5_aim_110 (by decide) (fun h110 => ?_) (fun h110 => ?_)
              · skip
                refine gl_iload_4 (pc := 145) C dX5_aim_145 ?_
                refine gl_istore_4 (pc := 147) C dX5_aim_147 ?_
                first | with_reducible refine gl_iincN_5 (pc := 149) gl_i1 C dX5_aim_149 ?_ | refine gl_iinc_5 (pc := 149) C dX5_aim_149 (gl_inc1 _) ?_
                refine gl_goto (pc := 152) 17 C dX5_aim_152 (by decide) ?_
                exact gl_on (ih (trivial)) (gl_le_c (rfl) (gl_le_c (rfl) (gl_le_c (rfl) (gl_le_c (congrArg Value.int (by grind [sp_aims, n12, n21])) (gl_le_c (congrArg Value.int (by grind [sp_aims, n12, n21])) (gl_le_c (rfl) (gl_le_o (gl_le_o (gl_le_n))))))))) (rfl)
              · skip
                refine gl_aload_0 (pc := 113) C dX5_aim_113 ?_
                refine gl_iload_5 (pc := 114) C dX5_aim_114 ?_
                refine gl_iconst (pc := 116) (nI 3) C dX5_aim_116 (by decide) ?_
                refine gl_callVi (pc := 117) (ctX5_ofCaller V.1 M k 3 (by omega) (by omega)) C dX5_aim_117 gX5_aim_X5_ofCaller rfl hdX5_ofCaller ⟨rfl, rfl, Nat.le_of_ble_eq_true rfl, Nat.le_of_ble_eq_true rfl⟩ rfl (Nat.le_of_ble_eq_true rfl) rfl rfl rfl ?_
                refine gl_iload_1 (pc := 120) C dX5_aim_120 ?_
                refine gl_icmp_ne (pc := 121) 145 C dX5_aim_121 (by decide) (fun h121 => ?_) (fun h121 => ?_)
                · skip
                  refine gl_iload_4 (pc := 145) C dX5_aim_145 ?_
                  refine gl_istore_4 (pc := 147) C dX5_aim_147 ?_
                  first | with_reducible refine gl_iincN_5 (pc := 149) gl_i1 C dX5_aim_149 ?_ | refine gl_iinc_5 (pc := 149) C dX5_aim_149 (gl_inc1 _) ?_
                  refine gl_goto (pc := 152) 17 C dX5_aim_152 (by decide) ?_
                  exact gl_on (ih (trivial)) (gl_le_c (rfl) (gl_le_c (rfl) (gl_le_c (rfl) (gl_le_c (congrArg Value.int (by grind [sp_aims, n12, n21])) (gl_le_c (congrArg Value.int (by grind [sp_aims, n12, n21])) (gl_le_c (rfl) (gl_le_o (gl_le_o (gl_le_n))))))))) (rfl)
                · skip
                  refine gl_aload_0 (pc := 124) C dX5_aim_124 ?_
                  refine gl_iload_5 (pc := 125) C dX5_aim_125 ?_
                  refine gl_iconst (pc := 127) (nI 2) C dX5_aim_127 (by decide) ?_
                  refine gl_callVi (pc := 128) (ctX5_ofCaller V.1 M k 2 (by omega) (by omega)) C dX5_aim_128 gX5_aim_X5_ofCaller rfl hdX5_ofCaller ⟨rfl, rfl, Nat.le_of_ble_eq_true rfl, Nat.le_of_ble_eq_true rfl⟩ rfl (Nat.le_of_ble_eq_true rfl) rfl rfl rfl ?_
                  refine gl_iconst (pc := 131) (nI 1) C dX5_aim_131 (by decide) ?_
                  refine gl_icmp_ne (pc := 132) 145 C dX5_aim_132 (by decide) (fun h132 => ?_) (fun h132 => ?_)
                  · skip
                    refine gl_iload_4 (pc := 145) C dX5_aim_145 ?_
                    refine gl_istore_4 (pc := 147) C dX5_aim_147 ?_
                    first | with_reducible refine gl_iincN_5 (pc := 149) gl_i1 C dX5_aim_149 ?_ | refine gl_iinc_5 (pc := 149) C dX5_aim_149 (gl_inc1 _) ?_
                    refine gl_goto (pc := 152) 17 C dX5_aim_152 (by decide) ?_
                    exact gl_on (ih (trivial)) (gl_le_c (rfl) (gl_le_c (rfl) (gl_le_c (rfl) (gl_le_c (congrArg Value.int (by grind [sp_aims, n12, n21])) (gl_le_c (congrArg Value.int (by grind [sp_aims, n12, n21])) (gl_le_c (rfl) (gl_le_o (gl_le_o (gl_le_n))))))))) (rfl)
                  · skip
                    refine gl_aload_0 (pc := 135) C dX5_aim_135 ?_
                    refine gl_iload_5 (pc := 136) C dX5_aim_136 ?_
                    refine gl_iconst (pc := 138) (nI 0) C dX5_aim_138 (by decide) ?_
                    refine gl_callVi (pc := 139) (ctX5_ofCaller V.1 M k 0 (by omega) (by omega)) C dX5_aim_139 gX5_aim_X5_ofCaller rfl hdX5_ofCaller ⟨rfl, rfl, Nat.le_of_ble_eq_true rfl, Nat.le_of_ble_eq_true rfl⟩ rfl (Nat.le_of_ble_eq_true rfl) rfl rfl rfl ?_
                    refine gl_goto (pc := 142) 147 C dX5_aim_142 (by decide) ?_
                    refine gl_istore_4 (pc := 147) C dX5_aim_147 ?_
                    first | with_reducible refine gl_iincN_5 (pc := 149) gl_i1 C dX5_aim_149 ?_ | refine gl_iinc_5 (pc := 149) C dX5_aim_149 (gl_inc1 _) ?_
                    refine gl_goto (pc := 152) 17 C dX5_aim_152 (by decide) ?_
                    exact gl_on (ih (trivial)) (gl_le_c (rfl) (gl_le_c (rfl) (gl_le_c (rfl) (gl_le_c (congrArg Value.int (by grind [sp_aims, n12, n21])) (gl_le_c (congrArg Value.int (by grind [sp_aims, n12, n21])) (gl_le_c (rfl) (gl_le_o (gl_le_o (gl_le_n))))))))) (rfl)
            · skip
              replace h90 := (sp_far_lt (hg k hk) ((sp_aims_ok hg k (by omega)).resolve_left h62) hfl).2.mp h90
              refine gl_iload_6 (pc := 93) C dX5_aim_93 ?_
              refine gl_iload_3 (pc := 95) C dX5_aim_95 ?_
              refine gl_icmp_ge (pc := 96) 104 C dX5_aim_96 (by decide) (fun h96 => ?_) (fun h96 => ?_)
              · skip
                replace h96 := Int32.not_lt.mpr h96
                refine gl_iload_3 (pc := 104) C dX5_aim_104 ?_
                refine gl_istore_3 (pc := 105) C dX5_aim_105 ?_
                refine gl_iload_4 (pc := 106) C dX5_aim_106 ?_
                refine gl_bipush (pc := 108) (-9) C dX5_aim_108 (by decide +kernel) ?_
                refine gl_icmp_ne (pc := 110) 145 C dX5_aim_110 (by decide) (fun h110 => ?_) (fun h110 => ?_)
                · skip
                  refine gl_iload_4 (pc := 145) C dX5_aim_145 ?_
                  refine gl_istore_4 (pc := 147) C dX5_aim_147 ?_
                  first | with_reducible refine gl_iincN_5 (pc := 149) gl_i1 C dX5_aim_149 ?_ | refine gl_iinc_5 (pc := 149) C dX5_aim_149 (gl_inc1 _) ?_
                  refine gl_goto (pc := 152) 17 C dX5_aim_152 (by decide) ?_
                  exact gl_on (ih (trivial)) (gl_le_c (rfl) (gl_le_c (rfl) (gl_le_c (rfl) (gl_le_c (congrArg Value.int (by grind [sp_aims, n12, n21])) (gl_le_c (congrArg Value.int (by grind [sp_aims, n12, n21])) (gl_le_c (rfl) (gl_le_o (gl_le_o (gl_le_n))))))))) (rfl)
                · skip
                  refine gl_aload_0 (pc := 113) C dX5_aim_113 ?_
                  refine gl_iload_5 (pc := 114) C dX5_aim_114 ?_
                  refine gl_iconst (pc := 116) (nI 3) C dX5_aim_116 (by decide) ?_
                  refine gl_callVi (pc := 117) (ctX5_ofCaller V.1 M k 3 (by omega) (by omega)) C dX5_aim_117 gX5_aim_X5_ofCaller rfl hdX5_ofCaller ⟨rfl, rfl, Nat.le_of_ble_eq_true rfl, Nat.le_of_ble_eq_true rfl⟩ rfl (Nat.le_of_ble_eq_true rfl) rfl rfl rfl ?_
                  refine gl_iload_1 (pc := 120) C dX5_aim_120 ?_
                  refine gl_icmp_ne (pc := 121) 145 C dX5_aim_121 (by decide) (fun h121 => ?_) (fun h121 => ?_)
                  · skip
                    refine gl_iload_4 (pc := 145) C dX5_aim_145 ?_
                    refine gl_istore_4 (pc := 147) C dX5_aim_147 ?_
                    first | with_reducible refine gl_iincN_5 (pc := 149) gl_i1 C dX5_aim_149 ?_ | refine gl_iinc_5 (pc := 149) C dX5_aim_149 (gl_inc1 _) ?_
                    refine gl_goto (pc := 152) 17 C dX5_aim_152 (by decide) ?_
                    exact gl_on (ih (trivial)) (gl_le_c (rfl) (gl_le_c (rfl) (gl_le_c (rfl) (gl_le_c (congrArg Value.int (by grind [sp_aims, n12, n21])) (gl_le_c (congrArg Value.int (by grind [sp_aims, n12, n21])) (gl_le_c (rfl) (gl_le_o (gl_le_o (gl_le_n))))))))) (rfl)
                  · skip
                    refine gl_aload_0 (pc := 124) C dX5_aim_124 ?_
                    refine gl_iload_5 (pc := 125) C dX5_aim_125 ?_
                    refine gl_iconst (pc := 127) (nI 2) C dX5_aim_127 (by decide) ?_
                    refine gl_callVi (pc := 128) (ctX5_ofCaller V.1 M k 2 (by omega) (by omega)) C dX5_aim_128 gX5_aim_X5_ofCaller rfl hdX5_ofCaller ⟨rfl, rfl, Nat.le_of_ble_eq_true rfl, Nat.le_of_ble_eq_true rfl⟩ rfl (Nat.le_of_ble_eq_true rfl) rfl rfl rfl ?_
                    refine gl_iconst (pc := 131) (nI 1) C dX5_aim_131 (by decide) ?_
                    refine gl_icmp_ne (pc := 132) 145 C dX5_aim_132 (by decide) (fun h132 => ?_) (fun h132 => ?_)
                    · skip
                      refine gl_iload_4 (pc := 145) C dX5_aim_145 ?_
                      refine gl_istore_4 (pc := 147) C dX5_aim_147 ?_
                      first | with_reducible refine gl_iincN_5 (pc := 149) gl_i1 C dX5_aim_149 ?_ | refine gl_iinc_5 (pc := 149) C dX5_aim_149 (gl_inc1 _) ?_
                      refine gl_goto (pc := 152) 17 C dX5_aim_152 (by decide) ?_
                      exact gl_on (ih (trivial)) (gl_le_c (rfl) (gl_le_c (rfl) (gl_le_c (rfl) (gl_le_c (congrArg Value.int (by grind [sp_aims, n12, n21])) (gl_le_c (congrArg Value.int (by grind [sp_aims, n12, n21])) (gl_le_c (rfl) (gl_le_o (gl_le_o (gl_le_n))))))))) (rfl)
                    · skip
                      refine gl_aload_0 (pc := 135) C dX5_aim_135 ?_
                      refine gl_iload_5 (pc := 136) C dX5_aim_136 ?_
                      refine gl_iconst (pc := 138) (nI 0) C dX5_aim_138 (by decide) ?_
                      refine gl_callVi (pc := 139) (ctX5_ofCaller V.1 M k 0 (by omega) (by omega)) C dX5_aim_139 gX5_aim_X5_ofCaller rfl hdX5_ofCaller ⟨rfl, rfl, Nat.le_of_ble_eq_true rfl, Nat.le_of_ble_eq_true rfl⟩ rfl (Nat.le_of_ble_eq_true rfl) rfl rfl rfl ?_
                      refine gl_goto (pc := 142) 147 C dX5_aim_142 (by decide) ?_
                      refine gl_istore_4 (pc := 147) C dX5_aim_147 ?_
                      first | with_reducible refine gl_iincN_5 (pc := 149) gl_i1 C dX5_aim_149 ?_ | refine gl_iinc_5 (pc := 149) C dX5_aim_149 (gl_inc1 _) ?_
                      refine gl_goto (pc := 152) 17 C dX5_aim_152 (by decide) ?_
                      exact gl_on (ih (trivial)) (gl_le_c (rfl) (gl_le_c (rfl) (gl_le_c (rfl) (gl_le_c (congrArg Value.int (by grind [sp_aims, n12, n21])) (gl_le_c (congrArg Value.int (by grind [sp_aims, n12, n21])) (gl_le_c (rfl) (gl_le_o (gl_le_o (gl_le_n))))))))) (rfl)
              · skip
                replace h96 := Int32.not_le.mp h96
                refine gl_iload_6 (pc := 99) C dX5_aim_99 ?_
                refine gl_goto (pc := 101) 105 C dX5_aim_101 (by decide) ?_
                refine gl_istore_3 (pc := 105) C dX5_aim_105 ?_
                refine gl_iload_4 (pc := 106) C dX5_aim_106 ?_
                refine gl_bipush (pc := 108) (-9) C dX5_aim_108 (by decide +kernel) ?_
                refine gl_icmp_ne (pc := 110) 145 C dX5_aim_110 (by decide) (fun h110 => ?_) (fun h110 => ?_)
                · skip
                  refine gl_iload_4 (pc := 145) C dX5_aim_145 ?_
                  refine gl_istore_4 (pc := 147) C dX5_aim_147 ?_
                  first | with_reducible refine gl_iincN_5 (pc := 149) gl_i1 C dX5_aim_149 ?_ | refine gl_iinc_5 (pc := 149) C dX5_aim_149 (gl_inc1 _) ?_
                  refine gl_goto (pc := 152) 17 C dX5_aim_152 (by decide) ?_
                  exact gl_on (ih (trivial)) (gl_le_c (rfl) (gl_le_c (rfl) (gl_le_c (rfl) (gl_le_c (congrArg Value.int (by grind [sp_aims, n12, n21])) (gl_le_c (congrArg Value.int (by grind [sp_aims, n12, n21])) (gl_le_c (rfl) (gl_le_o (gl_le_o (gl_le_n))))))))) (rfl)
                · skip
                  refine gl_aload_0 (pc := 113) C dX5_aim_113 ?_
                  refine gl_iload_5 (pc := 114) C dX5_aim_114 ?_
                  refine gl_iconst (pc := 116) (nI 3) C dX5_aim_116 (by decide) ?_
                  refine gl_callVi (pc := 117) (ctX5_ofCaller V.1 M k 3 (by omega) (by omega)) C dX5_aim_117 gX5_aim_X5_ofCaller rfl hdX5_ofCaller ⟨rfl, rfl, Nat.le_of_ble_eq_true rfl, Nat.le_of_ble_eq_true rfl⟩ rfl (Nat.le_of_ble_eq_true rfl) rfl rfl rfl ?_
                  refine gl_iload_1 (pc := 120) C dX5_aim_120 ?_
                  refine gl_icmp_ne (pc := 121) 145 C dX5_aim_121 (by decide) (fun h121 => ?_) (fun h121 => ?_)
                  · skip
                    refine gl_iload_4 (pc := 145) C dX5_aim_145 ?_
                    refine gl_istore_4 (pc := 147) C dX5_aim_147 ?_
                    first | with_reducible refine gl_iincN_5 (pc := 149) gl_i1 C dX5_aim_149 ?_ | refine gl_iinc_5 (pc := 149) C dX5_aim_149 (gl_inc1 _) ?_
                    refine gl_goto (pc := 152) 17 C dX5_aim_152 (by decide) ?_
                    exact gl_on (ih (trivial)) (gl_le_c (rfl) (gl_le_c (rfl) (gl_le_c (rfl) (gl_le_c (congrArg Value.int (by grind [sp_aims, n12, n21])) (gl_le_c (congrArg Value.int (by grind [sp_aims, n12, n21])) (gl_le_c (rfl) (gl_le_o (gl_le_o (gl_le_n))))))))) (rfl)
                  · skip
                    refine gl_aload_0 (pc := 124) C dX5_aim_124 ?_
                    refine gl_iload_5 (pc := 125) C dX5_aim_125 ?_
                    refine gl_iconst (pc := 127) (nI 2) C dX5_aim_127 (by decide) ?_
                    refine gl_callVi (pc := 128) (ctX5_ofCaller V.1 M k 2 (by omega) (by omega)) C dX5_aim_128 gX5_aim_X5_ofCaller rfl hdX5_ofCaller ⟨rfl, rfl, Nat.le_of_ble_eq_true rfl, Nat.le_of_ble_eq_true rfl⟩ rfl (Nat.le_of_ble_eq_true rfl) rfl rfl rfl ?_
                    refine gl_iconst (pc := 131) (nI 1) C dX5_aim_131 (by decide) ?_
                    refine gl_icmp_ne (pc := 132) 145 C dX5_aim_132 (by decide) (fun h132 => ?_) (fun h132 => ?_)
                    · skip
                      refine gl_iload_4 (pc := 145) C dX5_aim_145 ?_
                      refine gl_istore_4 (pc := 147) C dX5_aim_147 ?_
                      first | with_reducible refine gl_iincN_5 (pc := 149) gl_i1 C dX5_aim_149 ?_ | refine gl_iinc_5 (pc := 149) C dX5_aim_149 (gl_inc1 _) ?_
                      refine gl_goto (pc := 152) 17 C dX5_aim_152 (by decide) ?_
                      exact gl_on (ih (trivial)) (gl_le_c (rfl) (gl_le_c (rfl) (gl_le_c (rfl) (gl_le_c (congrArg Value.int (by grind [sp_aims, n12, n21])) (gl_le_c (congrArg Value.int (by grind [sp_aims, n12, n21])) (gl_le_c (rfl) (gl_le_o (gl_le_o (gl_le_n))))))))) (rfl)
                    · skip
                      refine gl_aload_0 (pc := 135) C dX5_aim_135 ?_
                      refine gl_iload_5 (pc := 136) C dX5_aim_136 ?_
                      refine gl_iconst (pc := 138) (nI 0) C dX5_aim_138 (by decide) ?_
                      refine gl_callVi (pc := 139) (ctX5_ofCaller V.1 M k 0 (by omega) (by omega)) C dX5_aim_139 gX5_aim_X5_ofCaller rfl hdX5_ofCaller ⟨rfl, rfl, Nat.le_of_ble_eq_true rfl, Nat.le_of_ble_eq_true rfl⟩ rfl (Nat.le_of_ble_eq_true rfl) rfl rfl rfl ?_
                      refine gl_goto (pc := 142) 147 C dX5_aim_142 (by decide) ?_
                      refine gl_istore_4 (pc := 147) C dX5_aim_147 ?_
                      first | with_reducible refine gl_iincN_5 (pc := 149) gl_i1 C dX5_aim_149 ?_ | refine gl_iinc_5 (pc := 149) C dX5_aim_149 (gl_inc1 _) ?_
                      refine gl_goto (pc := 152) 17 C dX5_aim_152 (by decide) ?_
                      exact gl_on (ih (trivial)) (gl_le_c (rfl) (gl_le_c (rfl) (gl_le_c (rfl) (gl_le_c (congrArg Value.int (by grind [sp_aims, n12, n21])) (gl_le_c (congrArg Value.int (by grind [sp_aims, n12, n21])) (gl_le_c (rfl) (gl_le_o (gl_le_o (gl_le_n))))))))) (rfl)
        · skip
          refine gl_iconst (pc := 65) (-1) C dX5_aim_65 (by decide) ?_
          refine gl_goto (pc := 66) 81 C dX5_aim_66 (by decide) ?_
          refine gl_istore_7 (pc := 81) C dX5_aim_81 ?_
          refine gl_iload_7 (pc := 83) C dX5_aim_83 ?_
          refine gl_iflt (pc := 85) 99 C dX5_aim_85 (by decide) (fun h85 => ?_) (fun h85 => absurd h85 (not_not_intro (by decide)))
          refine gl_iload_6 (pc := 99) C dX5_aim_99 ?_
          refine gl_goto (pc := 101) 105 C dX5_aim_101 (by decide) ?_
          refine gl_istore_3 (pc := 105) C dX5_aim_105 ?_
          refine gl_iload_4 (pc := 106) C dX5_aim_106 ?_
          refine gl_bipush (pc := 108) (-9) C dX5_aim_108 (by decide +kernel) ?_
          refine gl_icmp_ne (pc := 110) 145 C dX5_aim_110 (by decide) (fun h110 => ?_) (fun h110 => ?_)
          · skip
            refine gl_iload_4 (pc := 145) C dX5_aim_145 ?_
            refine gl_istore_4 (pc := 147) C dX5_aim_147 ?_
            first | with_reducible refine gl_iincN_5 (pc := 149) gl_i1 C dX5_aim_149 ?_ | refine gl_iinc_5 (pc := 149) C dX5_aim_149 (gl_inc1 _) ?_
            refine gl_goto (pc := 152) 17 C dX5_aim_152 (by decide) ?_
            exact gl_on (ih (trivial)) (gl_le_c (rfl) (gl_le_c (rfl) (gl_le_c (rfl) (gl_le_c (congrArg Value.int (by grind [sp_aims, n12, n21])) (gl_le_c (congrArg Value.int (by grind [sp_aims, n12, n21])) (gl_le_c (rfl) (gl_le_o (gl_le_o (gl_le_n))))))))) (rfl)
          · skip
            refine gl_aload_0 (pc := 113) C dX5_aim_113 ?_
            refine gl_iload_5 (pc := 114) C dX5_aim_114 ?_
            refine gl_iconst (pc := 116) (nI 3) C dX5_aim_116 (by decide) ?_
            refine gl_callVi (pc := 117) (ctX5_ofCaller V.1 M k 3 (by omega) (by omega)) C dX5_aim_117 gX5_aim_X5_ofCaller rfl hdX5_ofCaller ⟨rfl, rfl, Nat.le_of_ble_eq_true rfl, Nat.le_of_ble_eq_true rfl⟩ rfl (Nat.le_of_ble_eq_true rfl) rfl rfl rfl ?_
            refine gl_iload_1 (pc := 120) C dX5_aim_120 ?_
            refine gl_icmp_ne (pc := 121) 145 C dX5_aim_121 (by decide) (fun h121 => ?_) (fun h121 => ?_)
            · skip
              refine gl_iload_4 (pc := 145) C dX5_aim_145 ?_
              refine gl_istore_4 (pc := 147) C dX5_aim_147 ?_
              first | with_reducible refine gl_iincN_5 (pc := 149) gl_i1 C dX5_aim_149 ?_ | refine gl_iinc_5 (pc := 149) C dX5_aim_149 (gl_inc1 _) ?_
              refine gl_goto (pc := 152) 17 C dX5_aim_152 (by decide) ?_
              exact gl_on (ih (trivial)) (gl_le_c (rfl) (gl_le_c (rfl) (gl_le_c (rfl) (gl_le_c (congrArg Value.int (by grind [sp_aims, n12, n21])) (gl_le_c (congrArg Value.int (by grind [sp_aims, n12, n21])) (gl_le_c (rfl) (gl_le_o (gl_le_o (gl_le_n))))))))) (rfl)
            · skip
              refine gl_aload_0 (pc := 124) C dX5_aim_124 ?_
              refine gl_iload_5 (pc := 125) C dX5_aim_125 ?_
              refine gl_iconst (pc := 127) (nI 2) C dX5_aim_127 (by decide) ?_
              refine gl_callVi (pc := 128) (ctX5_ofCaller V.1 M k 2 (by omega) (by omega)) C dX5_aim_128 gX5_aim_X5_ofCaller rfl hdX5_ofCaller ⟨rfl, rfl, Nat.le_of_ble_eq_true rfl, Nat.le_of_ble_eq_true rfl⟩ rfl (Nat.le_of_ble_eq_true rfl) rfl rfl rfl ?_
              refine gl_iconst (pc := 131) (nI 1) C dX5_aim_131 (by decide) ?_
              refine gl_icmp_ne (pc := 132) 145 C dX5_aim_132 (by decide) (fun h132 => ?_) (fun h132 => ?_)
              · skip
                refine gl_iload_4 (pc := 145) C dX5_aim_145 ?_
                refine gl_istore_4 (pc := 147) C dX5_aim_147 ?_
                first | with_reducible refine gl_iincN_5 (pc := 149) gl_i1 C dX5_aim_149 ?_ | refine gl_iinc_5 (pc := 149) C dX5_aim_149 (gl_inc1 _) ?_
                refine gl_goto (pc := 152) 17 C dX5_aim_152 (by decide) ?_
                exact gl_on (ih (trivial)) (gl_le_c (rfl) (gl_le_c (rfl) (gl_le_c (rfl) (gl_le_c (congrArg Value.int (by grind [sp_aims, n12, n21])) (gl_le_c (congrArg Value.int (by grind [sp_aims, n12, n21])) (gl_le_c (rfl) (gl_le_o (gl_le_o (gl_le_n))))))))) (rfl)
              · skip
                refine gl_aload_0 (pc := 135) C dX5_aim_135 ?_
                refine gl_iload_5 (pc := 136) C dX5_aim_136 ?_
                refine gl_iconst (pc := 138) (nI 0) C dX5_aim_138 (by decide) ?_
                refine gl_callVi (pc := 139) (ctX5_ofCaller V.1 M k 0 (by omega) (by omega)) C dX5_aim_139 gX5_aim_X5_ofCaller rfl hdX5_ofCaller ⟨rfl, rfl, Nat.le_of_ble_eq_true rfl, Nat.le_of_ble_eq_true rfl⟩ rfl (Nat.le_of_ble_eq_true rfl) rfl rfl rfl ?_
                refine gl_goto (pc := 142) 147 C dX5_aim_142 (by decide) ?_
                refine gl_istore_4 (pc := 147) C dX5_aim_147 ?_
                first | with_reducible refine gl_iincN_5 (pc := 149) gl_i1 C dX5_aim_149 ?_ | refine gl_iinc_5 (pc := 149) C dX5_aim_149 (gl_inc1 _) ?_
                refine gl_goto (pc := 152) 17 C dX5_aim_152 (by decide) ?_
                exact gl_on (ih (trivial)) (gl_le_c (rfl) (gl_le_c (rfl) (gl_le_c (rfl) (gl_le_c (congrArg Value.int (by grind [sp_aims, n12, n21])) (gl_le_c (congrArg Value.int (by grind [sp_aims, n12, n21])) (gl_le_c (rfl) (gl_le_o (gl_le_o (gl_le_n))))))))) (rfl)
