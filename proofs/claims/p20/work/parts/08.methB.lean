theorem fX0_give_18 : gl_fl wsX0_give RX0 18 0 3 := ⟨RX0, TX0, 9, RX0, rfl, by decide, by decide +kernel, by decide +kernel, rfl⟩
theorem fX0_give_21 : gl_fl wsX0_give RX0 21 0 4 := ⟨RX0, TX0, 9, RX0, rfl, by decide, by decide +kernel, by decide +kernel, rfl⟩
theorem fX0_give_33 : gl_fl wsX0_give RX0 33 0 8 := ⟨RX0, TX0, 9, RX0, rfl, by decide, by decide +kernel, by decide +kernel, rfl⟩
theorem fX0_letOut_15 : gl_fl wsX0_letOut RX0 15 0 2 := ⟨RX0, TX0, 9, RX0, rfl, by decide, by decide +kernel, by decide +kernel, rfl⟩
theorem fX0_letOut_18 : gl_fl wsX0_letOut RX0 18 0 3 := ⟨RX0, TX0, 9, RX0, rfl, by decide, by decide +kernel, by decide +kernel, rfl⟩
theorem fX0_letOut_30 : gl_fl wsX0_letOut RX0 30 0 7 := ⟨RX0, TX0, 9, RX0, rfl, by decide, by decide +kernel, by decide +kernel, rfl⟩
theorem fX0_letOut_36 : gl_fl wsX0_letOut RX0 36 0 0 := ⟨RX0, TX0, 9, RX0, rfl, by decide, by decide +kernel, by decide +kernel, rfl⟩
theorem fX0_takeIn_9 : gl_fl wsX0_takeIn RX0 9 0 1 := ⟨RX0, TX0, 9, RX0, rfl, by decide, by decide +kernel, by decide +kernel, rfl⟩
theorem fX0_takeIn_18 : gl_fl wsX0_takeIn RX0 18 0 3 := ⟨RX0, TX0, 9, RX0, rfl, by decide, by decide +kernel, by decide +kernel, rfl⟩
theorem fX0_takeIn_27 : gl_fl wsX0_takeIn RX0 27 0 6 := ⟨RX0, TX0, 9, RX0, rfl, by decide, by decide +kernel, by decide +kernel, rfl⟩
theorem fX0_takeIn_36 : gl_fl wsX0_takeIn RX0 36 0 0 := ⟨RX0, TX0, 9, RX0, rfl, by decide, by decide +kernel, by decide +kernel, rfl⟩
theorem fX1_travelTowards_21 : gl_fl wsX1_travelTowards RX1 21 1 5 := ⟨RX1, TX1, 8, RX1, rfl, by decide, by decide +kernel, by decide +kernel, rfl⟩
theorem fX1_travelTowards_27 : gl_fl wsX1_travelTowards RX1 27 1 7 := ⟨RX1, TX1, 8, RX1, rfl, by decide, by decide +kernel, by decide +kernel, rfl⟩
theorem fX3_stopOrTravel_18 : gl_fl wsX3_stopOrTravel RX3 18 3 2 := ⟨RX3, TX3, 4, RX3, rfl, by decide, by decide +kernel, by decide +kernel, rfl⟩
theorem fX3_stopOrTravel_25 : gl_fl wsX3_stopOrTravel RX3 25 3 3 := ⟨RX3, TX3, 4, RX3, rfl, by decide, by decide +kernel, by decide +kernel, rfl⟩
theorem fX3_stopOrTravel_29 : gl_fl wsX3_stopOrTravel RX3 29 3 0 := ⟨RX3, TX3, 4, RX3, rfl, by decide, by decide +kernel, by decide +kernel, rfl⟩
theorem fX3_stopOrTravel_61 : gl_fl wsX3_stopOrTravel RX3 61 1 5 := ⟨RX1, TX1, 8, RX1, rfl, by decide, by decide +kernel, by decide +kernel, rfl⟩
theorem fX3_stopOrTravel_115 : gl_fl wsX3_stopOrTravel RX3 115 1 4 := ⟨RX1, TX1, 8, RX1, rfl, by decide, by decide +kernel, by decide +kernel, rfl⟩
theorem fX3_stopOrTravel_122 : gl_fl wsX3_stopOrTravel RX3 122 1 1 := ⟨RX1, TX1, 8, RX1, rfl, by decide, by decide +kernel, by decide +kernel, rfl⟩
theorem pX3_stopOrTravel_122 : gl_fp wsX3_stopOrTravel RX3 122 1 1 := ⟨RX1, TX1, 8, RX1, tyX1, rfl, by decide, by decide +kernel, by decide +kernel, rfl, tyX1_ok, nmX1, rfl, rfl⟩
theorem fX3_oneTick_18 : gl_fl wsX3_oneTick RX3 18 3 2 := ⟨RX3, TX3, 4, RX3, rfl, by decide, by decide +kernel, by decide +kernel, rfl⟩
theorem fX3_oneTick_25 : gl_fl wsX3_oneTick RX3 25 3 3 := ⟨RX3, TX3, 4, RX3, rfl, by decide, by decide +kernel, by decide +kernel, rfl⟩
theorem fX3_oneTick_29 : gl_fl wsX3_oneTick RX3 29 3 0 := ⟨RX3, TX3, 4, RX3, rfl, by decide, by decide +kernel, by decide +kernel, rfl⟩
theorem pX3_oneTick_29 : gl_fp wsX3_oneTick RX3 29 3 0 := ⟨RX3, TX3, 4, RX3, tyX3, rfl, by decide, by decide +kernel, by decide +kernel, rfl, tyX3_ok, nmX3, rfl, rfl⟩
theorem fX3_oneTick_50 : gl_fl wsX3_oneTick RX3 50 1 6 := ⟨RX1, TX1, 8, RX1, rfl, by decide, by decide +kernel, by decide +kernel, rfl⟩
theorem fX3_oneTick_81 : gl_fl wsX3_oneTick RX3 81 1 0 := ⟨RX1, TX1, 8, RX1, rfl, by decide, by decide +kernel, by decide +kernel, rfl⟩
theorem fX3_oneTick_92 : gl_fl wsX3_oneTick RX3 92 0 0 := ⟨RX0, TX0, 9, RX0, rfl, by decide, by decide +kernel, by decide +kernel, rfl⟩
theorem fX3_oneTick_93 : gl_fl wsX3_oneTick RX3 93 0 3 := ⟨RX0, TX0, 9, RX0, rfl, by decide, by decide +kernel, by decide +kernel, rfl⟩
theorem fX3_oneTick_96 : gl_fl wsX3_oneTick RX3 96 0 1 := ⟨RX0, TX0, 9, RX0, rfl, by decide, by decide +kernel, by decide +kernel, rfl⟩
theorem fX3_oneTick_97 : gl_fl wsX3_oneTick RX3 97 0 2 := ⟨RX0, TX0, 9, RX0, rfl, by decide, by decide +kernel, by decide +kernel, rfl⟩
theorem fX0_loseCar_9 : gl_fl wsX0_loseCar RX0 9 0 1 := ⟨RX0, TX0, 9, RX0, rfl, by decide, by decide +kernel, by decide +kernel, rfl⟩
theorem fX0_loseCar_15 : gl_fl wsX0_loseCar RX0 15 0 2 := ⟨RX0, TX0, 9, RX0, rfl, by decide, by decide +kernel, by decide +kernel, rfl⟩
theorem fX0_loseCar_18 : gl_fl wsX0_loseCar RX0 18 0 3 := ⟨RX0, TX0, 9, RX0, rfl, by decide, by decide +kernel, by decide +kernel, rfl⟩
theorem fX0_loseCar_21 : gl_fl wsX0_loseCar RX0 21 0 4 := ⟨RX0, TX0, 9, RX0, rfl, by decide, by decide +kernel, by decide +kernel, rfl⟩
theorem fX0_loseCar_30 : gl_fl wsX0_loseCar RX0 30 0 7 := ⟨RX0, TX0, 9, RX0, rfl, by decide, by decide +kernel, by decide +kernel, rfl⟩
theorem fX0_loseCar_36 : gl_fl wsX0_loseCar RX0 36 0 0 := ⟨RX0, TX0, 9, RX0, rfl, by decide, by decide +kernel, by decide +kernel, rfl⟩
theorem fX3_breakCar_18 : gl_fl wsX3_breakCar RX3 18 3 2 := ⟨RX3, TX3, 4, RX3, rfl, by decide, by decide +kernel, by decide +kernel, rfl⟩
theorem fX3_breakCar_25 : gl_fl wsX3_breakCar RX3 25 3 3 := ⟨RX3, TX3, 4, RX3, rfl, by decide, by decide +kernel, by decide +kernel, rfl⟩
theorem fX3_breakCar_29 : gl_fl wsX3_breakCar RX3 29 3 0 := ⟨RX3, TX3, 4, RX3, rfl, by decide, by decide +kernel, by decide +kernel, rfl⟩
theorem fX3_breakCar_50 : gl_fl wsX3_breakCar RX3 50 1 6 := ⟨RX1, TX1, 8, RX1, rfl, by decide, by decide +kernel, by decide +kernel, rfl⟩
theorem fX3_breakCar_61 : gl_fl wsX3_breakCar RX3 61 1 5 := ⟨RX1, TX1, 8, RX1, rfl, by decide, by decide +kernel, by decide +kernel, rfl⟩
theorem fX0_add_9 : gl_fl wsX0_add RX0 9 0 1 := ⟨RX0, TX0, 9, RX0, rfl, by decide, by decide +kernel, by decide +kernel, rfl⟩
theorem fX0_add_15 : gl_fl wsX0_add RX0 15 0 2 := ⟨RX0, TX0, 9, RX0, rfl, by decide, by decide +kernel, by decide +kernel, rfl⟩
theorem fX0_add_18 : gl_fl wsX0_add RX0 18 0 3 := ⟨RX0, TX0, 9, RX0, rfl, by decide, by decide +kernel, by decide +kernel, rfl⟩
theorem fX0_add_21 : gl_fl wsX0_add RX0 21 0 4 := ⟨RX0, TX0, 9, RX0, rfl, by decide, by decide +kernel, by decide +kernel, rfl⟩
theorem fX0_add_24 : gl_fl wsX0_add RX0 24 0 5 := ⟨RX0, TX0, 9, RX0, rfl, by decide, by decide +kernel, by decide +kernel, rfl⟩
theorem fX0_add_27 : gl_fl wsX0_add RX0 27 0 6 := ⟨RX0, TX0, 9, RX0, rfl, by decide, by decide +kernel, by decide +kernel, rfl⟩
theorem fX0_add_30 : gl_fl wsX0_add RX0 30 0 7 := ⟨RX0, TX0, 9, RX0, rfl, by decide, by decide +kernel, by decide +kernel, rfl⟩
theorem fX0_add_33 : gl_fl wsX0_add RX0 33 0 8 := ⟨RX0, TX0, 9, RX0, rfl, by decide, by decide +kernel, by decide +kernel, rfl⟩
theorem fX0_add_36 : gl_fl wsX0_add RX0 36 0 0 := ⟨RX0, TX0, 9, RX0, rfl, by decide, by decide +kernel, by decide +kernel, rfl⟩
theorem pX0_add_36 : gl_fp wsX0_add RX0 36 0 0 := ⟨RX0, TX0, 9, RX0, tyX0, rfl, by decide, by decide +kernel, by decide +kernel, rfl, tyX0_ok, nmX0, rfl, rfl⟩
theorem fX1_add_9 : gl_fl wsX1_add RX1 9 1 2 := ⟨RX1, TX1, 8, RX1, rfl, by decide, by decide +kernel, by decide +kernel, rfl⟩
theorem fX1_add_15 : gl_fl wsX1_add RX1 15 1 3 := ⟨RX1, TX1, 8, RX1, rfl, by decide, by decide +kernel, by decide +kernel, rfl⟩
theorem fX1_add_18 : gl_fl wsX1_add RX1 18 1 4 := ⟨RX1, TX1, 8, RX1, rfl, by decide, by decide +kernel, by decide +kernel, rfl⟩
theorem fX1_add_21 : gl_fl wsX1_add RX1 21 1 5 := ⟨RX1, TX1, 8, RX1, rfl, by decide, by decide +kernel, by decide +kernel, rfl⟩
theorem fX1_add_24 : gl_fl wsX1_add RX1 24 1 6 := ⟨RX1, TX1, 8, RX1, rfl, by decide, by decide +kernel, by decide +kernel, rfl⟩
theorem fX1_add_27 : gl_fl wsX1_add RX1 27 1 7 := ⟨RX1, TX1, 8, RX1, rfl, by decide, by decide +kernel, by decide +kernel, rfl⟩
theorem fX1_add_30 : gl_fl wsX1_add RX1 30 1 0 := ⟨RX1, TX1, 8, RX1, rfl, by decide, by decide +kernel, by decide +kernel, rfl⟩
theorem pX1_add_30 : gl_fp wsX1_add RX1 30 1 0 := ⟨RX1, TX1, 8, RX1, tyX1, rfl, by decide, by decide +kernel, by decide +kernel, rfl, tyX1_ok, nmX1, rfl, rfl⟩
set_option maxRecDepth 100000 in
set_option maxHeartbeats 4000000 in
theorem ctX0_give (F : gl_F) {n : Nat} (hn40 : n ≤ 40) {M : Nat → Int32} (hn : M 2 = nI n) (k : Nat) (hk : k < n) (c : Int32) : gl_Ct F LH yX0_give wsX0_give rmX0_give [.ref (gl_r F 9), .int (nI k), .int c] M (none) (sp_give M k c) := by
  refine gl_met (cc := cX0_give) (maxL := 3) (ret := none) [some (.ref (gl_r F 9)), some (.int (nI k)), some (.int c)] (plainFor_of_name (by decide)) rfl ok_LH (by simp [Value.category]) (Nat.le_of_ble_eq_true rfl) rfl (fun V hV C => ?_)
  subst hV
  refine gl_iload_2 (pc := 0) C dX0_give_0 ?_
  refine gl_bipush (pc := 1) (-9) C dX0_give_1 (by decide +kernel) ?_
  refine gl_icmp_eq (pc := 3) 14 C dX0_give_3 (by decide) (fun h3 => ?_) (fun h3 => ?_)
  · skip
    exact gl_vret (pc := 14) C dX0_give_14 (by rw [sp_give, if_pos h3])
  · skip
    refine gl_aload_0 (pc := 6) C dX0_give_6 ?_
    refine gl_iload_1 (pc := 7) C dX0_give_7 ?_
    refine gl_callVi (pc := 8) (ctX0_has V.1 M (nI k)) C dX0_give_8 gX0_give_X0_has rfl hdX0_has ⟨rfl, rfl, Nat.le_of_ble_eq_true rfl, Nat.le_of_ble_eq_true rfl⟩ rfl (Nat.le_of_ble_eq_true rfl) rfl rfl rfl ?_
    refine gl_ifne (pc := 11) 15 C dX0_give_11 (by decide) (fun h11 => ?_) (fun h11 => absurd h11 (gl_bn.mpr ⟨nI_pos (by omega), by rw [hn]; exact nI_ge hk (by omega)⟩))
    refine gl_aload_0 (pc := 15) C dX0_give_15 ?_
    refine gl_getR (pc := 16) C dX0_give_16 fX0_give_18 rfl rfl ?_
    refine gl_iload_1 (pc := 19) C dX0_give_19 ?_
    refine gl_iconst (pc := 20) (nI 1) C dX0_give_20 (by decide) ?_
    refine gl_iast (pc := 21) _ C dX0_give_21 rfl rfl (by omega) ?_
    refine gl_aload_0 (pc := 22) C dX0_give_22 ?_
    refine gl_getR (pc := 23) C dX0_give_23 fX0_give_21 rfl rfl ?_
    refine gl_iload_1 (pc := 26) C dX0_give_26 ?_
    refine gl_iload_2 (pc := 27) C dX0_give_27 ?_
    refine gl_iast (pc := 28) _ C dX0_give_28 rfl rfl (by omega) ?_
    refine gl_aload_0 (pc := 29) C dX0_give_29 ?_
    refine gl_getR (pc := 30) C dX0_give_30 fX0_give_33 rfl rfl ?_
    refine gl_iload_1 (pc := 33) C dX0_give_33 ?_
    refine gl_dup2 (pc := 34) C dX0_give_34 ?_
    refine gl_iald (pc := 35) _ C dX0_give_35 rfl rfl (by omega) ?_
    refine gl_top ((rK (by omega) (by omega) (by omega)).trans (rK (by omega) (by omega) (by omega))) ?_
    refine gl_iconst (pc := 36) (nI 1) C dX0_give_36 (by decide) ?_
    first | with_reducible refine gl_iaddN (pc := 37) C dX0_give_37 ?_ | refine gl_iadd (pc := 37) C dX0_give_37 ?_
    refine gl_iast (pc := 38) _ C dX0_give_38 rfl rfl (by omega) ?_
    exact gl_vret (pc := 39) C dX0_give_39 (by rw [sp_give, if_neg h3])
set_option maxRecDepth 100000 in
set_option maxHeartbeats 4000000 in
theorem ctX0_letOut (F : gl_F) {n m t : Nat} {M : Nat → Int32} (w : sp_W n m t M) (c fl tk : Int32) : gl_Ct F LH yX0_letOut wsX0_letOut rmX0_letOut [.ref (gl_r F 9), .int c, .int fl, .int tk] M (some (.int (nI (sp_outn M c fl tk n)))) (sp_outs M c fl tk n) := by
  refine gl_met (cc := cX0_letOut) (maxL := 6) (ret := some .int) [some (.ref (gl_r F 9)), some (.int c), some (.int fl), some (.int tk), none, none] (plainFor_of_name (by decide)) rfl ok_LH (by simp [Value.category]) (Nat.le_of_ble_eq_true rfl) rfl (fun V hV C => ?_)
  subst hV
  obtain ⟨hn40, hm5, hn, hm, ht, hcar, hcal⟩ := id w
  refine gl_iconst (pc := 0) (nI 0) C dX0_letOut_0 (by decide) ?_
  refine gl_istore_4 (pc := 1) C dX0_letOut_1 ?_
  refine gl_iconst (pc := 3) (nI 0) C dX0_letOut_3 (by decide) ?_
  refine gl_istore_5 (pc := 4) C dX0_letOut_4 ?_
  refine gl_loop (pc := 6) (n := n) (fun k => [some (.ref (gl_r V.1 9)), some (.int c), some (.int fl), some (.int tk), some (.int (nI (sp_outn M c fl tk k))), some (.int (nI k))]) (fun k => (sp_outs M c fl tk k)) (fun k => True) 0 (Nat.zero_le _) (trivial) (gl_le_c (rfl) (gl_le_c (rfl) (gl_le_c (rfl) (gl_le_c (rfl) (gl_le_c (rfl) (gl_le_c (rfl) (gl_le_n))))))) (rfl) (fun hI => ?_) (fun k hk hI ih => ?_)
  · skip
    refine gl_iload_5 (pc := 6) C dX0_letOut_6 ?_
    refine gl_aload_0 (pc := 8) C dX0_letOut_8 ?_
    refine gl_getI (pc := 9) C dX0_letOut_9 fX0_letOut_36 rfl rfl ?_
    refine gl_top (sp_outs_W w n (Nat.le_refl _)).2.2.1 ?_
    refine gl_icmp_ge (pc := 12) 61 C dX0_letOut_12 (by decide) (fun h12 => ?_) (fun h12 => absurd h12 (gl_xge))
    refine gl_iload_4 (pc := 61) C dX0_letOut_61 ?_
    exact gl_iret (pc := 63) C dX0_letOut_63 (rfl) (rfl)
  · skip
    refine gl_iload_5 (pc := 6) C dX0_letOut_6 ?_
    refine gl_aload_0 (pc := 8) C dX0_letOut_8 ?_
    refine gl_getI (pc := 9) C dX0_letOut_9 fX0_letOut_36 rfl rfl ?_
    refine gl_top (sp_outs_W w k (Nat.le_of_lt hk)).2.2.1 ?_
    refine gl_icmp_ge (pc := 12) 61 C dX0_letOut_12 (by decide) (fun h12 => absurd h12 (nI_ge hk (by omega))) (fun h12 => ?_)
    refine gl_aload_0 (pc := 15) C dX0_letOut_15 ?_
    refine gl_iload_5 (pc := 16) C dX0_letOut_16 ?_
    refine gl_iload_1 (pc := 18) C dX0_letOut_18 ?_
    refine gl_callVi (pc := 19) (ctX0_rides V.1 (sp_outs M c fl tk k) k (by omega) c) C dX0_letOut_19 gX0_letOut_X0_rides rfl hdX0_rides ⟨rfl, rfl, Nat.le_of_ble_eq_true rfl, Nat.le_of_ble_eq_true rfl⟩ rfl (Nat.le_of_ble_eq_true rfl) rfl rfl rfl ?_
    refine gl_ifeq (pc := 22) 55 C dX0_letOut_22 (by decide) (fun h22 => ?_) (fun h22 => ?_)
    · skip
      replace h22 := gl_bz.mp h22
      first | with_reducible refine gl_iincN_5 (pc := 55) gl_i1 C dX0_letOut_55 ?_ | refine gl_iinc_5 (pc := 55) C dX0_letOut_55 (gl_inc1 _) ?_
      refine gl_goto (pc := 58) 6 C dX0_letOut_58 (by decide) ?_
      exact gl_on (ih (trivial)) (gl_le_c (rfl) (gl_le_c (rfl) (gl_le_c (rfl) (gl_le_c (rfl) (gl_le_c (congrArg Value.int (by grind [sp_outn])) (gl_le_c (rfl) (gl_le_n))))))) (by grind [sp_outs])
    · skip
      replace h22 := gl_bn.mp h22
      refine gl_aload_0 (pc := 25) C dX0_letOut_25 ?_
      refine gl_getR (pc := 26) C dX0_letOut_26 fX0_letOut_15 rfl rfl ?_
      refine gl_iload_5 (pc := 29) C dX0_letOut_29 ?_
      refine gl_iald (pc := 31) _ C dX0_letOut_31 rfl rfl (by omega) ?_
      refine gl_iload_2 (pc := 32) C dX0_letOut_32 ?_
      refine gl_icmp_ne (pc := 33) 55 C dX0_letOut_33 (by decide) (fun h33 => ?_) (fun h33 => ?_)
      · skip
        first | with_reducible refine gl_iincN_5 (pc := 55) gl_i1 C dX0_letOut_55 ?_ | refine gl_iinc_5 (pc := 55) C dX0_letOut_55 (gl_inc1 _) ?_
        refine gl_goto (pc := 58) 6 C dX0_letOut_58 (by decide) ?_
        exact gl_on (ih (trivial)) (gl_le_c (rfl) (gl_le_c (rfl) (gl_le_c (rfl) (gl_le_c (rfl) (gl_le_c (congrArg Value.int (by grind [sp_outn])) (gl_le_c (rfl) (gl_le_n))))))) (by grind [sp_outs])
      · skip
        refine gl_aload_0 (pc := 36) C dX0_letOut_36 ?_
        refine gl_getR (pc := 37) C dX0_letOut_37 fX0_letOut_18 rfl rfl ?_
        refine gl_iload_5 (pc := 40) C dX0_letOut_40 ?_
        refine gl_iconst (pc := 42) (nI 3) C dX0_letOut_42 (by decide) ?_
        refine gl_iast (pc := 43) _ C dX0_letOut_43 rfl rfl (by omega) ?_
        refine gl_aload_0 (pc := 44) C dX0_letOut_44 ?_
        refine gl_getR (pc := 45) C dX0_letOut_45 fX0_letOut_30 rfl rfl ?_
        refine gl_iload_5 (pc := 48) C dX0_letOut_48 ?_
        refine gl_iload_3 (pc := 50) C dX0_letOut_50 ?_
        refine gl_iast (pc := 51) _ C dX0_letOut_51 rfl rfl (by omega) ?_
        first | with_reducible refine gl_iincN_4 (pc := 52) gl_i1 C dX0_letOut_52 ?_ | refine gl_iinc_4 (pc := 52) C dX0_letOut_52 (gl_inc1 _) ?_
        first | with_reducible refine gl_iincN_5 (pc := 55) gl_i1 C dX0_letOut_55 ?_ | refine gl_iinc_5 (pc := 55) C dX0_letOut_55 (gl_inc1 _) ?_
        refine gl_goto (pc := 58) 6 C dX0_letOut_58 (by decide) ?_
        exact gl_on (ih (trivial)) (gl_le_c (rfl) (gl_le_c (rfl) (gl_le_c (rfl) (gl_le_c (rfl) (gl_le_c (congrArg Value.int (by grind [sp_outn])) (gl_le_c (rfl) (gl_le_n))))))) (by grind [sp_outs])
set_option maxRecDepth 100000 in
set_option maxHeartbeats 4000000 in
theorem ctX0_takeIn (F : gl_F) {n m t : Nat} {M : Nat → Int32} (w : sp_W n m t M) (c fl : Int32) {pl : Int32} {p : Nat} (hp : p ≤ 8) (hpl : pl = nI p) (tk : Int32) : gl_Ct F LH yX0_takeIn wsX0_takeIn rmX0_takeIn [.ref (gl_r F 9), .int c, .int fl, .int pl, .int tk] M (some (.int (nI (sp_takn M c fl pl tk n n)))) (sp_tak M c fl pl tk n n) := by
  refine gl_met (cc := cX0_takeIn) (maxL := 8) (ret := some .int) [some (.ref (gl_r F 9)), some (.int c), some (.int fl), some (.int pl), some (.int tk), none, none, none] (plainFor_of_name (by decide)) rfl ok_LH (by simp [Value.category]) (Nat.le_of_ble_eq_true rfl) rfl (fun V hV C => ?_)
  subst hV
  obtain ⟨hn40, hm5, hn, hm, ht, hcar, hcal⟩ := id w
  refine gl_iload_3 (pc := 0) C dX0_takeIn_0 ?_
  refine gl_aload_0 (pc := 1) C dX0_takeIn_1 ?_
  refine gl_iload_1 (pc := 2) C dX0_takeIn_2 ?_
  refine gl_iconst (pc := 3) (nI 2) C dX0_takeIn_3 (by decide) ?_
  refine gl_callVi (pc := 4) (ctX0_numberOf V.1 hn40 hn c (nI 2)) C dX0_takeIn_4 gX0_takeIn_X0_numberOf rfl hdX0_numberOf ⟨rfl, rfl, Nat.le_of_ble_eq_true rfl, Nat.le_of_ble_eq_true rfl⟩ rfl (Nat.le_of_ble_eq_true rfl) rfl rfl rfl ?_
  refine gl_isub (pc := 7) C dX0_takeIn_7 ?_
  refine gl_istore_5 (pc := 8) C dX0_takeIn_8 ?_
  refine gl_iconst (pc := 10) (nI 0) C dX0_takeIn_10 (by decide) ?_
  refine gl_istore_6 (pc := 11) C dX0_takeIn_11 ?_
  refine gl_iconst (pc := 13) (nI 0) C dX0_takeIn_13 (by decide) ?_
  refine gl_istore_7 (pc := 14) C dX0_takeIn_14 ?_
  refine gl_loop (pc := 16) (n := n) (fun k => [some (.ref (gl_r V.1 9)), some (.int c), some (.int fl), some (.int pl), some (.int tk), some (.int (pl - sp_of M c (nI 2) n)), some (.int (nI (sp_takn M c fl pl tk n k))), some (.int (nI k))]) (fun k => (sp_tak M c fl pl tk n k)) (fun k => True) 0 (Nat.zero_le _) (trivial) (gl_le_c (rfl) (gl_le_c (rfl) (gl_le_c (rfl) (gl_le_c (rfl) (gl_le_c (rfl) (gl_le_c (rfl) (gl_le_c (rfl) (gl_le_c (rfl) (gl_le_n))))))))) (rfl) (fun hI => ?_) (fun k hk hI ih => ?_)
  · skip
    refine gl_iload_7 (pc := 16) C dX0_takeIn_16 ?_
    refine gl_aload_0 (pc := 18) C dX0_takeIn_18 ?_
    refine gl_getI (pc := 19) C dX0_takeIn_19 fX0_takeIn_36 rfl rfl ?_
    refine gl_top (sp_tak_W w n (Nat.le_refl _)).2.2.1 ?_
    refine gl_icmp_ge (pc := 22) 79 C dX0_takeIn_22 (by decide) (fun h22 => ?_) (fun h22 => absurd h22 (gl_xge))
    refine gl_iload_6 (pc := 79) C dX0_takeIn_79 ?_
    exact gl_iret (pc := 81) C dX0_takeIn_81 (rfl) (rfl)
  · skip
    refine gl_iload_7 (pc := 16) C dX0_takeIn_16 ?_
    refine gl_aload_0 (pc := 18) C dX0_takeIn_18 ?_
    refine gl_getI (pc := 19) C dX0_takeIn_19 fX0_takeIn_36 rfl rfl ?_
    refine gl_top (sp_tak_W w k (Nat.le_of_lt hk)).2.2.1 ?_
    refine gl_icmp_ge (pc := 22) 79 C dX0_takeIn_22 (by decide) (fun h22 => absurd h22 (nI_ge hk (by omega))) (fun h22 => ?_)
    refine gl_iload_6 (pc := 25) C dX0_takeIn_25 ?_
    refine gl_iload_5 (pc := 27) C dX0_takeIn_27 ?_
    refine gl_icmp_ge (pc := 29) 79 C dX0_takeIn_29 (by decide) (fun h29 => ?_) (fun h29 => ?_)
    · skip
      replace h29 := sp_tak_full ((sp_free' hn40 hp hpl (Nat.le_of_lt hk)).mp h29) (n - k)
      rw [show k + (n - k) = n by omega] at h29
      refine gl_iload_6 (pc := 79) C dX0_takeIn_79 ?_
      exact gl_iret (pc := 81) C dX0_takeIn_81 (by rw [h29.2]) (h29.1.symm)
    · skip
      replace h29 := fun q => h29 ((sp_free' hn40 hp hpl (Nat.le_of_lt hk)).mpr q)
      refine gl_aload_0 (pc := 32) C dX0_takeIn_32 ?_
      refine gl_iload_7 (pc := 33) C dX0_takeIn_33 ?_
      refine gl_iload_1 (pc := 35) C dX0_takeIn_35 ?_
      refine gl_callVi (pc := 36) (ctX0_waitsFor V.1 (sp_tak M c fl pl tk n k) k (by omega) c) C dX0_takeIn_36 gX0_takeIn_X0_waitsFor rfl hdX0_waitsFor ⟨rfl, rfl, Nat.le_of_ble_eq_true rfl, Nat.le_of_ble_eq_true rfl⟩ rfl (Nat.le_of_ble_eq_true rfl) rfl rfl rfl ?_
      refine gl_ifeq (pc := 39) 73 C dX0_takeIn_39 (by decide) (fun h39 => ?_) (fun h39 => ?_)
      · skip
        replace h39 := gl_bz.mp h39
        first | with_reducible refine gl_iincN_7 (pc := 73) gl_i1 C dX0_takeIn_73 ?_ | refine gl_iinc_7 (pc := 73) C dX0_takeIn_73 (gl_inc1 _) ?_
        refine gl_goto (pc := 76) 16 C dX0_takeIn_76 (by decide) ?_
        exact gl_on (ih (trivial)) (gl_le_c (rfl) (gl_le_c (rfl) (gl_le_c (rfl) (gl_le_c (rfl) (gl_le_c (rfl) (gl_le_c (rfl) (gl_le_c (congrArg Value.int (by grind [sp_takn])) (gl_le_c (rfl) (gl_le_n))))))))) (by grind [sp_tak])
      · skip
        replace h39 := gl_bn.mp h39
        refine gl_aload_0 (pc := 42) C dX0_takeIn_42 ?_
        refine gl_getR (pc := 43) C dX0_takeIn_43 fX0_takeIn_9 rfl rfl ?_
        refine gl_iload_7 (pc := 46) C dX0_takeIn_46 ?_
        refine gl_iald (pc := 48) _ C dX0_takeIn_48 rfl rfl (by omega) ?_
        refine gl_iload_2 (pc := 49) C dX0_takeIn_49 ?_
        refine gl_icmp_ne (pc := 50) 73 C dX0_takeIn_50 (by decide) (fun h50 => ?_) (fun h50 => ?_)
        · skip
          first | with_reducible refine gl_iincN_7 (pc := 73) gl_i1 C dX0_takeIn_73 ?_ | refine gl_iinc_7 (pc := 73) C dX0_takeIn_73 (gl_inc1 _) ?_
          refine gl_goto (pc := 76) 16 C dX0_takeIn_76 (by decide) ?_
          exact gl_on (ih (trivial)) (gl_le_c (rfl) (gl_le_c (rfl) (gl_le_c (rfl) (gl_le_c (rfl) (gl_le_c (rfl) (gl_le_c (rfl) (gl_le_c (congrArg Value.int (by grind [sp_takn])) (gl_le_c (rfl) (gl_le_n))))))))) (by grind [sp_tak])
        · skip
          refine gl_aload_0 (pc := 53) C dX0_takeIn_53 ?_
          refine gl_getR (pc := 54) C dX0_takeIn_54 fX0_takeIn_18 rfl rfl ?_
          refine gl_iload_7 (pc := 57) C dX0_takeIn_57 ?_
          refine gl_iconst (pc := 59) (nI 2) C dX0_takeIn_59 (by decide) ?_
          refine gl_iast (pc := 60) _ C dX0_takeIn_60 rfl rfl (by omega) ?_
          refine gl_aload_0 (pc := 61) C dX0_takeIn_61 ?_
          refine gl_getR (pc := 62) C dX0_takeIn_62 fX0_takeIn_27 rfl rfl ?_
          refine gl_iload_7 (pc := 65) C dX0_takeIn_65 ?_
          refine gl_iload_4 (pc := 67) C dX0_takeIn_67 ?_
          refine gl_iast (pc := 69) _ C dX0_takeIn_69 rfl rfl (by omega) ?_
          first | with_reducible refine gl_iincN_6 (pc := 70) gl_i1 C dX0_takeIn_70 ?_ | refine gl_iinc_6 (pc := 70) C dX0_takeIn_70 (gl_inc1 _) ?_
          first | with_reducible refine gl_iincN_7 (pc := 73) gl_i1 C dX0_takeIn_73 ?_ | refine gl_iinc_7 (pc := 73) C dX0_takeIn_73 (gl_inc1 _) ?_
          refine gl_goto (pc := 76) 16 C dX0_takeIn_76 (by decide) ?_
          exact gl_on (ih (trivial)) (gl_le_c (rfl) (gl_le_c (rfl) (gl_le_c (rfl) (gl_le_c (rfl) (gl_le_c (rfl) (gl_le_c (rfl) (gl_le_c (congrArg Value.int (by grind [sp_takn])) (gl_le_c (rfl) (gl_le_n))))))))) (by grind [sp_tak])
set_option maxRecDepth 100000 in
set_option maxHeartbeats 4000000 in
theorem ctX1_travelTowards (F : gl_F) (M : Nat → Int32) (c : Nat) (hc : c < 5) (a : Int32) : gl_Ct F LH yX1_travelTowards wsX1_travelTowards rmX1_travelTowards [.ref (gl_r F 2), .int (nI c), .int a] M (none) (sp_trav M c a) := by
  refine gl_met (cc := cX1_travelTowards) (maxL := 3) (ret := none) [some (.ref (gl_r F 2)), some (.int (nI c)), some (.int a)] (plainFor_of_name (by decide)) rfl ok_LH (by simp [Value.category]) (Nat.le_of_ble_eq_true rfl) rfl (fun V hV C => ?_)
  subst hV
  refine gl_aload_0 (pc := 0) C dX1_travelTowards_0 ?_
  refine gl_getR (pc := 1) C dX1_travelTowards_1 fX1_travelTowards_21 rfl rfl ?_
  refine gl_iload_1 (pc := 4) C dX1_travelTowards_4 ?_
  refine gl_dup2 (pc := 5) C dX1_travelTowards_5 ?_
  refine gl_iald (pc := 6) _ C dX1_travelTowards_6 rfl rfl (by omega) ?_
  refine gl_iload_2 (pc := 7) C dX1_travelTowards_7 ?_
  refine gl_aload_0 (pc := 8) C dX1_travelTowards_8 ?_
  refine gl_getR (pc := 9) C dX1_travelTowards_9 fX1_travelTowards_21 rfl rfl ?_
  refine gl_iload_1 (pc := 12) C dX1_travelTowards_12 ?_
  refine gl_iald (pc := 13) _ C dX1_travelTowards_13 rfl rfl (by omega) ?_
  refine gl_icmp_le (pc := 14) 21 C dX1_travelTowards_14 (by decide) (fun h14 => ?_) (fun h14 => ?_)
  · skip
    refine gl_iconst (pc := 21) (-1) C dX1_travelTowards_21 (by decide) ?_
    first | with_reducible refine gl_iaddN (pc := 22) C dX1_travelTowards_22 ?_ | refine gl_iadd (pc := 22) C dX1_travelTowards_22 ?_
    refine gl_iast (pc := 23) _ C dX1_travelTowards_23 rfl rfl (by omega) ?_
    refine gl_aload_0 (pc := 24) C dX1_travelTowards_24 ?_
    refine gl_getR (pc := 25) C dX1_travelTowards_25 fX1_travelTowards_27 rfl rfl ?_
    refine gl_iload_1 (pc := 28) C dX1_travelTowards_28 ?_
    refine gl_dup2 (pc := 29) C dX1_travelTowards_29 ?_
    refine gl_iald (pc := 30) _ C dX1_travelTowards_30 rfl rfl (by omega) ?_
    refine gl_top (rC (by omega) (by omega) (by omega)) ?_
    refine gl_iconst (pc := 31) (nI 1) C dX1_travelTowards_31 (by decide) ?_
    first | with_reducible refine gl_iaddN (pc := 32) C dX1_travelTowards_32 ?_ | refine gl_iadd (pc := 32) C dX1_travelTowards_32 ?_
    refine gl_iast (pc := 33) _ C dX1_travelTowards_33 rfl rfl (by omega) ?_
    exact gl_vret (pc := 34) C dX1_travelTowards_34 (by grind [sp_trav])
  · skip
    refine gl_iconst (pc := 17) (nI 1) C dX1_travelTowards_17 (by decide) ?_
    refine gl_goto (pc := 18) 22 C dX1_travelTowards_18 (by decide) ?_
    first | with_reducible refine gl_iaddN (pc := 22) C dX1_travelTowards_22 ?_ | refine gl_iadd (pc := 22) C dX1_travelTowards_22 ?_
    refine gl_iast (pc := 23) _ C dX1_travelTowards_23 rfl rfl (by omega) ?_
    refine gl_aload_0 (pc := 24) C dX1_travelTowards_24 ?_
    refine gl_getR (pc := 25) C dX1_travelTowards_25 fX1_travelTowards_27 rfl rfl ?_
    refine gl_iload_1 (pc := 28) C dX1_travelTowards_28 ?_
    refine gl_dup2 (pc := 29) C dX1_travelTowards_29 ?_
    refine gl_iald (pc := 30) _ C dX1_travelTowards_30 rfl rfl (by omega) ?_
    refine gl_top (rC (by omega) (by omega) (by omega)) ?_
    refine gl_iconst (pc := 31) (nI 1) C dX1_travelTowards_31 (by decide) ?_
    first | with_reducible refine gl_iaddN (pc := 32) C dX1_travelTowards_32 ?_ | refine gl_iadd (pc := 32) C dX1_travelTowards_32 ?_
    refine gl_iast (pc := 33) _ C dX1_travelTowards_33 rfl rfl (by omega) ?_
    exact gl_vret (pc := 34) C dX1_travelTowards_34 (by grind [sp_trav])
set_option maxRecDepth 100000 in
set_option maxHeartbeats 4000000 in
theorem ctX3_stopOrTravel (F : gl_F) {n m t : Nat} {M : Nat → Int32} (w : sp_W n m t M) (c : Nat) (hc : c < m) : gl_Ct F LH yX3_stopOrTravel wsX3_stopOrTravel rmX3_stopOrTravel [.ref (gl_r F 0), .int (nI c)] M (none) (sp_stop M c t n) := by
  refine gl_met (cc := cX3_stopOrTravel) (maxL := 6) (ret := none) [some (.ref (gl_r F 0)), some (.int (nI c)), none, none, none, none] (plainFor_of_name (by decide)) rfl ok_LH (by simp [Value.category]) (Nat.le_of_ble_eq_true rfl) rfl (fun V hV C => ?_)
  subst hV
  obtain ⟨hn40, hm5, hn, hm, ht, hcar, hcal⟩ := id w
  obtain ⟨-, -, hfl, p, hp1, hp8, hpl⟩ := hcar c hc
  have ho := sp_outn_le (M := M) (c := nI c) (fl := (M (iC c 3))) (tk := nI t) n
  have htk := sp_takn_le (M := sp_outs M (nI c) (M (iC c 3)) (nI t) n) (c := nI c) (fl := (M (iC c 3))) (pl := (M (iC c 2))) (tk := nI t) (n := n) n
  refine gl_aload_0 (pc := 0) C dX3_stopOrTravel_0 ?_
  refine gl_getR (pc := 1) C dX3_stopOrTravel_1 fX3_stopOrTravel_18 rfl rfl ?_
  refine gl_getR (pc := 4) C dX3_stopOrTravel_4 fX3_stopOrTravel_61 rfl rfl ?_
  refine gl_iload_1 (pc := 7) C dX3_stopOrTravel_7 ?_
  refine gl_iald (pc := 8) _ C dX3_stopOrTravel_8 rfl rfl (by omega) ?_
  refine gl_istore_2 (pc := 9) C dX3_stopOrTravel_9 ?_
  refine gl_aload_0 (pc := 10) C dX3_stopOrTravel_10 ?_
  refine gl_getR (pc := 11) C dX3_stopOrTravel_11 fX3_stopOrTravel_25 rfl rfl ?_
  refine gl_iload_1 (pc := 14) C dX3_stopOrTravel_14 ?_
  refine gl_iload_2 (pc := 15) C dX3_stopOrTravel_15 ?_
  refine gl_aload_0 (pc := 16) C dX3_stopOrTravel_16 ?_
  refine gl_getI (pc := 17) C dX3_stopOrTravel_17 fX3_stopOrTravel_29 rfl rfl ?_
  refine gl_top ht ?_
  refine gl_callVi (pc := 20) (ctX0_letOut V.1 w (nI c) (M (iC c 3)) (nI t)) C dX3_stopOrTravel_20 gX3_stopOrTravel_X0_letOut rfl hdX0_letOut ⟨rfl, rfl, Nat.le_of_ble_eq_true rfl, Nat.le_of_ble_eq_true rfl⟩ rfl (Nat.le_of_ble_eq_true rfl) rfl rfl rfl ?_
  refine gl_istore_3 (pc := 23) C dX3_stopOrTravel_23 ?_
  refine gl_aload_0 (pc := 24) C dX3_stopOrTravel_24 ?_
  refine gl_getR (pc := 25) C dX3_stopOrTravel_25 fX3_stopOrTravel_25 rfl rfl ?_
  refine gl_iload_1 (pc := 28) C dX3_stopOrTravel_28 ?_
  refine gl_iload_2 (pc := 29) C dX3_stopOrTravel_29 ?_
  refine gl_aload_0 (pc := 30) C dX3_stopOrTravel_30 ?_
  refine gl_getR (pc := 31) C dX3_stopOrTravel_31 fX3_stopOrTravel_18 rfl rfl ?_
  refine gl_getR (pc := 34) C dX3_stopOrTravel_34 fX3_stopOrTravel_115 rfl rfl ?_
  refine gl_iload_1 (pc := 37) C dX3_stopOrTravel_37 ?_
  refine gl_iald (pc := 38) _ C dX3_stopOrTravel_38 rfl rfl (by omega) ?_
  refine gl_top (sp_outs_o (fun j => ⟨iCK (by omega) (by omega), iCK (by omega) (by omega)⟩) n) ?_
  refine gl_aload_0 (pc := 39) C dX3_stopOrTravel_39 ?_
  refine gl_getI (pc := 40) C dX3_stopOrTravel_40 fX3_stopOrTravel_29 rfl rfl ?_
  refine gl_top (sp_outs_W w n (Nat.le_refl _)).2.2.2.2.1 ?_
  refine gl_callVi (pc := 43) (ctX0_takeIn V.1 (sp_outs_W w n (Nat.le_refl _)) (nI c) (M (iC c 3)) hp8 hpl (nI t)) C dX3_stopOrTravel_43 gX3_stopOrTravel_X0_takeIn rfl hdX0_takeIn ⟨rfl, rfl, Nat.le_of_ble_eq_true rfl, Nat.le_of_ble_eq_true rfl⟩ rfl (Nat.le_of_ble_eq_true rfl) rfl rfl rfl ?_
  refine gl_istore_4 (pc := 46) C dX3_stopOrTravel_46 ?_
  refine gl_iload_3 (pc := 48) C dX3_stopOrTravel_48 ?_
  refine gl_iload_4 (pc := 49) C dX3_stopOrTravel_49 ?_
  first | with_reducible refine gl_iaddN (pc := 51) C dX3_stopOrTravel_51 ?_ | refine gl_iadd (pc := 51) C dX3_stopOrTravel_51 ?_
  refine gl_ifle (pc := 52) 69 C dX3_stopOrTravel_52 (by decide) (fun h52 => ?_) (fun h52 => ?_)
  · skip
    have hs : ¬ sp_isStop M (nI c) (M (iC c 3)) (M (iC c 2)) n := fun q => absurd h52 (nI_nle (sp_two_yes (tk := nI t) q) (by omega))
    refine gl_mem (sp_two_no (tk := nI t) hs).1 ?_
    refine gl_aload_0 (pc := 69) C dX3_stopOrTravel_69 ?_
    refine gl_getR (pc := 70) C dX3_stopOrTravel_70 fX3_stopOrTravel_25 rfl rfl ?_
    refine gl_iload_1 (pc := 73) C dX3_stopOrTravel_73 ?_
    refine gl_iload_2 (pc := 74) C dX3_stopOrTravel_74 ?_
    refine gl_callVi (pc := 75) (ctX0_aimOf V.1 hn40 hn (fun k hk => (hcal k hk).2.1) (nI c) hfl) C dX3_stopOrTravel_75 gX3_stopOrTravel_X0_aimOf rfl hdX0_aimOf ⟨rfl, rfl, Nat.le_of_ble_eq_true rfl, Nat.le_of_ble_eq_true rfl⟩ rfl (Nat.le_of_ble_eq_true rfl) rfl rfl rfl ?_
    refine gl_istore_5 (pc := 78) C dX3_stopOrTravel_78 ?_
    refine gl_iload_5 (pc := 80) C dX3_stopOrTravel_80 ?_
    refine gl_bipush (pc := 82) (-9) C dX3_stopOrTravel_82 (by decide +kernel) ?_
    refine gl_icmp_eq (pc := 84) 97 C dX3_stopOrTravel_84 (by decide) (fun h84 => ?_) (fun h84 => ?_)
    · skip
      exact gl_vret (pc := 97) C dX3_stopOrTravel_97 (by rw [sp_stop, if_neg hs, if_pos h84])
    · skip
      refine gl_aload_0 (pc := 87) C dX3_stopOrTravel_87 ?_
      refine gl_getR (pc := 88) C dX3_stopOrTravel_88 fX3_stopOrTravel_18 rfl rfl ?_
      refine gl_iload_1 (pc := 91) C dX3_stopOrTravel_91 ?_
      refine gl_iload_5 (pc := 92) C dX3_stopOrTravel_92 ?_
      refine gl_callVv (pc := 94) (ctX1_travelTowards V.1 M c (by omega) (sp_aim M (nI c) (M (iC c 3)) n)) C dX3_stopOrTravel_94 gX3_stopOrTravel_X1_travelTowards rfl hdX1_travelTowards ⟨rfl, rfl, Nat.le_of_ble_eq_true rfl, Nat.le_of_ble_eq_true rfl⟩ rfl (Nat.le_of_ble_eq_true rfl) rfl rfl rfl ?_
      exact gl_vret (pc := 97) C dX3_stopOrTravel_97 (by rw [sp_stop, if_neg hs, if_neg h84])
  · skip
    have hs : sp_isStop M (nI c) (M (iC c 3)) (M (iC c 2)) n := Classical.byContradiction (fun q => by have e := (sp_two_no (tk := nI t) q).2; unfold sp_twon at e; rw [e] at h52; exact h52 (by decide))
    refine gl_aload_0 (pc := 55) C dX3_stopOrTravel_55 ?_
    refine gl_getR (pc := 56) C dX3_stopOrTravel_56 fX3_stopOrTravel_18 rfl rfl ?_
    first | refine gl_dupR (pc := 59) C dX3_stopOrTravel_59 ?_ | refine gl_dupI (pc := 59) C dX3_stopOrTravel_59 ?_
    refine gl_getI (pc := 60) C dX3_stopOrTravel_60 fX3_stopOrTravel_122 rfl rfl ?_
    refine gl_iconst (pc := 63) (nI 1) C dX3_stopOrTravel_63 (by decide) ?_
    first | with_reducible refine gl_iaddN (pc := 64) C dX3_stopOrTravel_64 ?_ | refine gl_iadd (pc := 64) C dX3_stopOrTravel_64 ?_
    refine gl_put (pc := 65) C dX3_stopOrTravel_65 pX3_stopOrTravel_122 rfl rfl ?_
    exact gl_vret (pc := 68) C dX3_stopOrTravel_68 (by rw [sp_stop, if_pos hs]; rfl)
set_option maxRecDepth 100000 in
set_option maxHeartbeats 4000000 in
theorem ctX3_oneTick (F : gl_F) {n m t : Nat} {M : Nat → Int32} (w : sp_W n m t M) (ht31 : t < 2 ^ 31) : gl_Ct F LH yX3_oneTick wsX3_oneTick rmX3_oneTick [.ref (gl_r F 0)] M (none) (sp_tick M t n m) := by
  refine gl_met (cc := cX3_oneTick) (maxL := 2) (ret := none) [some (.ref (gl_r F 0)), none] (plainFor_of_name (by decide)) rfl ok_LH (by simp [Value.category]) (Nat.le_of_ble_eq_true rfl) rfl (fun V hV C => ?_)
  subst hV
  obtain ⟨hn40, hm5, hn, hm, ht, hcar, hcal⟩ := id w
  have wn := sp_look_W w n (Nat.le_refl _)
  refine gl_iconst (pc := 0) (nI 0) C dX3_oneTick_0 (by decide) ?_
  refine gl_istore_1 (pc := 1) C dX3_oneTick_1 ?_
  refine gl_loop (pc := 2) (n := n) (fun k => [some (.ref (gl_r V.1 0)), some (.int (nI k))]) (fun k => (sp_look M t n m k)) (fun k => True) 0 (Nat.zero_le _) (trivial) (gl_le_c (rfl) (gl_le_c (rfl) (gl_le_n))) (rfl) (fun hI => ?_) (fun k hk hI ih => ?_)
  · skip
    refine gl_iload_1 (pc := 2) C dX3_oneTick_2 ?_
    refine gl_aload_0 (pc := 3) C dX3_oneTick_3 ?_
    refine gl_getR (pc := 4) C dX3_oneTick_4 fX3_oneTick_25 rfl rfl ?_
    refine gl_getI (pc := 7) C dX3_oneTick_7 fX3_oneTick_92 rfl rfl ?_
    refine gl_top wn.2.2.1 ?_
    refine gl_icmp_ge (pc := 10) 61 C dX3_oneTick_10 (by decide) (fun h10 => ?_) (fun h10 => absurd h10 (gl_xge))
    refine gl_iconst (pc := 61) (nI 0) C dX3_oneTick_61 (by decide) ?_
    refine gl_istore_1 (pc := 62) C dX3_oneTick_62 ?_
    refine gl_loop (pc := 63) (n := m) (fun c => [some (.ref (gl_r V.1 0)), some (.int (nI c))]) (fun c => (sp_cars (sp_look M t n m n) t n c)) (fun c => True) 0 (Nat.zero_le _) (trivial) (gl_le_c (rfl) (gl_le_c (rfl) (gl_le_n))) (rfl) (fun hI => ?_) (fun c hc hI ih => ?_)
    · skip
      refine gl_iload_1 (pc := 63) C dX3_oneTick_63 ?_
      refine gl_aload_0 (pc := 64) C dX3_oneTick_64 ?_
      refine gl_getR (pc := 65) C dX3_oneTick_65 fX3_oneTick_18 rfl rfl ?_
      refine gl_getI (pc := 68) C dX3_oneTick_68 fX3_oneTick_81 rfl rfl ?_
      refine gl_top (sp_cars_W wn m (Nat.le_refl _)).2.2.2.1 ?_
      refine gl_icmp_ge (pc := 71) 97 C dX3_oneTick_71 (by decide) (fun h71 => ?_) (fun h71 => absurd h71 (gl_xge))
      refine gl_aload_0 (pc := 97) C dX3_oneTick_97 ?_
      first | refine gl_dupR (pc := 98) C dX3_oneTick_98 ?_ | refine gl_dupI (pc := 98) C dX3_oneTick_98 ?_
      refine gl_getI (pc := 99) C dX3_oneTick_99 fX3_oneTick_29 rfl rfl ?_
      refine gl_iconst (pc := 102) (nI 1) C dX3_oneTick_102 (by decide) ?_
      first | with_reducible refine gl_iaddN (pc := 103) C dX3_oneTick_103 ?_ | refine gl_iadd (pc := 103) C dX3_oneTick_103 ?_
      refine gl_put (pc := 104) C dX3_oneTick_104 pX3_oneTick_29 rfl rfl ?_
      exact gl_vret (pc := 107) C dX3_oneTick_107 (rfl)
    · skip
      have wc := sp_cars_W wn c (Nat.le_of_lt hc)
      refine gl_iload_1 (pc := 63) C dX3_oneTick_63 ?_
      refine gl_aload_0 (pc := 64) C dX3_oneTick_64 ?_
      refine gl_getR (pc := 65) C dX3_oneTick_65 fX3_oneTick_18 rfl rfl ?_
      refine gl_getI (pc := 68) C dX3_oneTick_68 fX3_oneTick_81 rfl rfl ?_
      refine gl_top wc.2.2.2.1 ?_
      refine gl_icmp_ge (pc := 71) 97 C dX3_oneTick_71 (by decide) (fun h71 => absurd h71 (nI_ge hc (by omega))) (fun h71 => ?_)
      refine gl_aload_0 (pc := 74) C dX3_oneTick_74 ?_
      refine gl_getR (pc := 75) C dX3_oneTick_75 fX3_oneTick_18 rfl rfl ?_
      refine gl_getR (pc := 78) C dX3_oneTick_78 fX3_oneTick_50 rfl rfl ?_
      refine gl_iload_1 (pc := 81) C dX3_oneTick_81 ?_
      refine gl_iald (pc := 82) _ C dX3_oneTick_82 rfl rfl (by omega) ?_
      refine gl_ifne (pc := 83) 91 C dX3_oneTick_83 (by decide) (fun h83 => ?_) (fun h83 => ?_)
      · skip
        first | with_reducible refine gl_iincN_1 (pc := 91) gl_i1 C dX3_oneTick_91 ?_ | refine gl_iinc_1 (pc := 91) C dX3_oneTick_91 (gl_inc1 _) ?_
        refine gl_goto (pc := 94) 63 C dX3_oneTick_94 (by decide) ?_
        exact gl_on (ih (trivial)) (gl_le_c (rfl) (gl_le_c (rfl) (gl_le_n))) (by grind [sp_cars])
      · skip
        refine gl_aload_0 (pc := 86) C dX3_oneTick_86 ?_
        refine gl_iload_1 (pc := 87) C dX3_oneTick_87 ?_
        refine gl_callVv (pc := 88) (ctX3_stopOrTravel V.1 wc c hc) C dX3_oneTick_88 gX3_oneTick_X3_stopOrTravel rfl hdX3_stopOrTravel ⟨rfl, rfl, Nat.le_of_ble_eq_true rfl, Nat.le_of_ble_eq_true rfl⟩ rfl (Nat.le_of_ble_eq_true rfl) rfl rfl rfl ?_
        first | with_reducible refine gl_iincN_1 (pc := 91) gl_i1 C dX3_oneTick_91 ?_ | refine gl_iinc_1 (pc := 91) C dX3_oneTick_91 (gl_inc1 _) ?_
        refine gl_goto (pc := 94) 63 C dX3_oneTick_94 (by decide) ?_
        exact gl_on (ih (trivial)) (gl_le_c (rfl) (gl_le_c (rfl) (gl_le_n))) (by grind [sp_cars])
  · skip
    have wk := sp_look_W w k (Nat.le_of_lt hk)
    refine gl_iload_1 (pc := 2) C dX3_oneTick_2 ?_
    refine gl_aload_0 (pc := 3) C dX3_oneTick_3 ?_
    refine gl_getR (pc := 4) C dX3_oneTick_4 fX3_oneTick_25 rfl rfl ?_
    refine gl_getI (pc := 7) C dX3_oneTick_7 fX3_oneTick_92 rfl rfl ?_
    refine gl_top wk.2.2.1 ?_
    refine gl_icmp_ge (pc := 10) 61 C dX3_oneTick_10 (by decide) (fun h10 => absurd h10 (nI_ge hk (by omega))) (fun h10 => ?_)
    refine gl_aload_0 (pc := 13) C dX3_oneTick_13 ?_
    refine gl_getR (pc := 14) C dX3_oneTick_14 fX3_oneTick_25 rfl rfl ?_
    refine gl_getR (pc := 17) C dX3_oneTick_17 fX3_oneTick_93 rfl rfl ?_
    refine gl_iload_1 (pc := 20) C dX3_oneTick_20 ?_
    refine gl_iald (pc := 21) _ C dX3_oneTick_21 rfl rfl (by omega) ?_
    refine gl_ifne (pc := 22) 55 C dX3_oneTick_22 (by decide) (fun h22 => ?_) (fun h22 => ?_)
    · skip
      first | with_reducible refine gl_iincN_1 (pc := 55) gl_i1 C dX3_oneTick_55 ?_ | refine gl_iinc_1 (pc := 55) C dX3_oneTick_55 (gl_inc1 _) ?_
      refine gl_goto (pc := 58) 2 C dX3_oneTick_58 (by decide) ?_
      exact gl_on (ih (trivial)) (gl_le_c (rfl) (gl_le_c (rfl) (gl_le_n))) (by grind [sp_look])
    · skip
      refine gl_aload_0 (pc := 25) C dX3_oneTick_25 ?_
      refine gl_getR (pc := 26) C dX3_oneTick_26 fX3_oneTick_25 rfl rfl ?_
      refine gl_iload_1 (pc := 29) C dX3_oneTick_29 ?_
      refine gl_aload_0 (pc := 30) C dX3_oneTick_30 ?_
      refine gl_aload_0 (pc := 31) C dX3_oneTick_31 ?_
      refine gl_getR (pc := 32) C dX3_oneTick_32 fX3_oneTick_25 rfl rfl ?_
      refine gl_getR (pc := 35) C dX3_oneTick_35 fX3_oneTick_96 rfl rfl ?_
      refine gl_iload_1 (pc := 38) C dX3_oneTick_38 ?_
      refine gl_iald (pc := 39) _ C dX3_oneTick_39 rfl rfl (by omega) ?_
      refine gl_aload_0 (pc := 40) C dX3_oneTick_40 ?_
      refine gl_getR (pc := 41) C dX3_oneTick_41 fX3_oneTick_25 rfl rfl ?_
      refine gl_getR (pc := 44) C dX3_oneTick_44 fX3_oneTick_97 rfl rfl ?_
      refine gl_iload_1 (pc := 47) C dX3_oneTick_47 ?_
      refine gl_iald (pc := 48) _ C dX3_oneTick_48 rfl rfl (by omega) ?_
      refine gl_callVi (pc := 49) (ctX3_bestCar V.1 wk ht31 (wk.2.2.2.2.2.2 k hk).1 (wk.2.2.2.2.2.2 k hk).2.1) C dX3_oneTick_49 gX3_oneTick_X3_bestCar rfl hdX3_bestCar ⟨rfl, rfl, Nat.le_of_ble_eq_true rfl, Nat.le_of_ble_eq_true rfl⟩ rfl (Nat.le_of_ble_eq_true rfl) rfl rfl rfl ?_
      refine gl_callVv (pc := 52) (ctX0_give V.1 hn40 wk.2.2.1 k hk _) C dX3_oneTick_52 gX3_oneTick_X0_give rfl hdX0_give ⟨rfl, rfl, Nat.le_of_ble_eq_true rfl, Nat.le_of_ble_eq_true rfl⟩ rfl (Nat.le_of_ble_eq_true rfl) rfl rfl rfl ?_
      first | with_reducible refine gl_iincN_1 (pc := 55) gl_i1 C dX3_oneTick_55 ?_ | refine gl_iinc_1 (pc := 55) C dX3_oneTick_55 (gl_inc1 _) ?_
      refine gl_goto (pc := 58) 2 C dX3_oneTick_58 (by decide) ?_
      exact gl_on (ih (trivial)) (gl_le_c (rfl) (gl_le_c (rfl) (gl_le_n))) (by grind [sp_look])
set_option maxRecDepth 100000 in
set_option maxHeartbeats 4000000 in
theorem ctX0_loseCar (F : gl_F) {n m t : Nat} {M : Nat → Int32} (w : sp_W n m t M) (c : Int32) {fl : Int32} (hfl : sp_fl fl) (tk : Int32) : gl_Ct F LH yX0_loseCar wsX0_loseCar rmX0_loseCar [.ref (gl_r F 9), .int c, .int fl, .int tk] M (none) (sp_lose M c fl tk n) := by
  refine gl_met (cc := cX0_loseCar) (maxL := 6) (ret := none) [some (.ref (gl_r F 9)), some (.int c), some (.int fl), some (.int tk), none, none] (plainFor_of_name (by decide)) rfl ok_LH (by simp [Value.category]) (Nat.le_of_ble_eq_true rfl) rfl (fun V hV C => ?_)
  subst hV
  obtain ⟨hn40, hm5, hn, hm, ht, hcar, hcal⟩ := id w
  refine gl_iconst (pc := 0) (nI 0) C dX0_loseCar_0 (by decide) ?_
  refine gl_istore_4 (pc := 1) C dX0_loseCar_1 ?_
  refine gl_loop (pc := 3) (n := n) (fun k => [some (.ref (gl_r V.1 9)), some (.int c), some (.int fl), some (.int tk), some (.int (nI k)), none]) (fun k => (sp_lose M c fl tk k)) (fun k => True) 0 (Nat.zero_le _) (trivial) (gl_le_c (rfl) (gl_le_c (rfl) (gl_le_c (rfl) (gl_le_c (rfl) (gl_le_c (rfl) (gl_le_o (gl_le_n))))))) (rfl) (fun hI => ?_) (fun k hk hI ih => ?_)
  · skip
    refine gl_iload_4 (pc := 3) C dX0_loseCar_3 ?_
    refine gl_aload_0 (pc := 5) C dX0_loseCar_5 ?_
    refine gl_getI (pc := 6) C dX0_loseCar_6 fX0_loseCar_36 rfl rfl ?_
    refine gl_top (sp_lose_W w hfl n (Nat.le_refl _)).2.2.1 ?_
    refine gl_icmp_ge (pc := 9) 110 C dX0_loseCar_9 (by decide) (fun h9 => ?_) (fun h9 => absurd h9 (gl_xge))
    exact gl_vret (pc := 110) C dX0_loseCar_110 (rfl)
  · skip
    refine gl_iload_4 (pc := 3) C dX0_loseCar_3 ?_
    refine gl_aload_0 (pc := 5) C dX0_loseCar_5 ?_
    refine gl_getI (pc := 6) C dX0_loseCar_6 fX0_loseCar_36 rfl rfl ?_
    refine gl_top (sp_lose_W w hfl k (Nat.le_of_lt hk)).2.2.1 ?_
    refine gl_icmp_ge (pc := 9) 110 C dX0_loseCar_9 (by decide) (fun h9 => absurd h9 (nI_ge hk (by omega))) (fun h9 => ?_)
    refine gl_aload_0 (pc := 12) C dX0_loseCar_12 ?_
    refine gl_iload_4 (pc := 13) C dX0_loseCar_13 ?_
    refine gl_iload_1 (pc := 15) C dX0_loseCar_15 ?_
    refine gl_callVi (pc := 16) (ctX0_rides V.1 (sp_lose M c fl tk k) k (by omega) c) C dX0_loseCar_16 gX0_loseCar_X0_rides rfl hdX0_rides ⟨rfl, rfl, Nat.le_of_ble_eq_true rfl, Nat.le_of_ble_eq_true rfl⟩ rfl (Nat.le_of_ble_eq_true rfl) rfl rfl rfl ?_
    refine gl_istore_5 (pc := 19) C dX0_loseCar_19 ?_
    refine gl_iload_5 (pc := 21) C dX0_loseCar_21 ?_
    refine gl_ifne (pc := 23) 39 C dX0_loseCar_23 (by decide) (fun h23 => ?_) (fun h23 => ?_)
    · skip
      replace h23 := gl_bn.mp h23
      refine gl_iload_5 (pc := 39) C dX0_loseCar_39 ?_
      refine gl_ifeq (pc := 41) 52 C dX0_loseCar_41 (by decide) (fun h41 => absurd h41 (gl_bn.mpr h23)) (fun h41 => ?_)
      refine gl_aload_0 (pc := 44) C dX0_loseCar_44 ?_
      refine gl_getR (pc := 45) C dX0_loseCar_45 fX0_loseCar_9 rfl rfl ?_
      refine gl_iload_4 (pc := 48) C dX0_loseCar_48 ?_
      refine gl_iload_2 (pc := 50) C dX0_loseCar_50 ?_
      refine gl_iast (pc := 51) _ C dX0_loseCar_51 rfl rfl (by omega) ?_
      refine gl_iload_5 (pc := 52) C dX0_loseCar_52 ?_
      refine gl_ifeq (pc := 54) 87 C dX0_loseCar_54 (by decide) (fun h54 => absurd h54 (gl_bn.mpr h23)) (fun h54 => ?_)
      refine gl_aload_0 (pc := 57) C dX0_loseCar_57 ?_
      refine gl_getR (pc := 58) C dX0_loseCar_58 fX0_loseCar_15 rfl rfl ?_
      refine gl_iload_4 (pc := 61) C dX0_loseCar_61 ?_
      refine gl_iald (pc := 63) _ C dX0_loseCar_63 rfl rfl (by omega) ?_
      refine gl_top (rK (by omega) (by omega) (by omega)) ?_
      refine gl_iload_2 (pc := 64) C dX0_loseCar_64 ?_
      refine gl_icmp_ne (pc := 65) 87 C dX0_loseCar_65 (by decide) (fun h65 => ?_) (fun h65 => ?_)
      · skip
        refine gl_aload_0 (pc := 87) C dX0_loseCar_87 ?_
        refine gl_getR (pc := 88) C dX0_loseCar_88 fX0_loseCar_18 rfl rfl ?_
        refine gl_iload_4 (pc := 91) C dX0_loseCar_91 ?_
        refine gl_iconst (pc := 93) (nI 0) C dX0_loseCar_93 (by decide) ?_
        refine gl_iast (pc := 94) _ C dX0_loseCar_94 rfl rfl (by omega) ?_
        refine gl_aload_0 (pc := 95) C dX0_loseCar_95 ?_
        refine gl_getR (pc := 96) C dX0_loseCar_96 fX0_loseCar_21 rfl rfl ?_
        refine gl_iload_4 (pc := 99) C dX0_loseCar_99 ?_
        refine gl_bipush (pc := 101) (-9) C dX0_loseCar_101 (by decide +kernel) ?_
        refine gl_iast (pc := 103) _ C dX0_loseCar_103 rfl rfl (by omega) ?_
        first | with_reducible refine gl_iincN_4 (pc := 104) gl_i1 C dX0_loseCar_104 ?_ | refine gl_iinc_4 (pc := 104) C dX0_loseCar_104 (gl_inc1 _) ?_
        refine gl_goto (pc := 107) 3 C dX0_loseCar_107 (by decide) ?_
        exact gl_on (ih (trivial)) (gl_le_c (rfl) (gl_le_c (rfl) (gl_le_c (rfl) (gl_le_c (rfl) (gl_le_c (rfl) (gl_le_o (gl_le_n))))))) (by grind [sp_lose])
      · skip
        refine gl_aload_0 (pc := 68) C dX0_loseCar_68 ?_
        refine gl_getR (pc := 69) C dX0_loseCar_69 fX0_loseCar_18 rfl rfl ?_
        refine gl_iload_4 (pc := 72) C dX0_loseCar_72 ?_
        refine gl_iconst (pc := 74) (nI 3) C dX0_loseCar_74 (by decide) ?_
        refine gl_iast (pc := 75) _ C dX0_loseCar_75 rfl rfl (by omega) ?_
        refine gl_aload_0 (pc := 76) C dX0_loseCar_76 ?_
        refine gl_getR (pc := 77) C dX0_loseCar_77 fX0_loseCar_30 rfl rfl ?_
        refine gl_iload_4 (pc := 80) C dX0_loseCar_80 ?_
        refine gl_iload_3 (pc := 82) C dX0_loseCar_82 ?_
        refine gl_iast (pc := 83) _ C dX0_loseCar_83 rfl rfl (by omega) ?_
        refine gl_goto (pc := 84) 104 C dX0_loseCar_84 (by decide) ?_
        first | with_reducible refine gl_iincN_4 (pc := 104) gl_i1 C dX0_loseCar_104 ?_ | refine gl_iinc_4 (pc := 104) C dX0_loseCar_104 (gl_inc1 _) ?_
        refine gl_goto (pc := 107) 3 C dX0_loseCar_107 (by decide) ?_
        exact gl_on (ih (trivial)) (gl_le_c (rfl) (gl_le_c (rfl) (gl_le_c (rfl) (gl_le_c (rfl) (gl_le_c (rfl) (gl_le_o (gl_le_n))))))) (by grind [sp_lose])
    · skip
      replace h23 := gl_bz.mp h23
      refine gl_aload_0 (pc := 26) C dX0_loseCar_26 ?_
      refine gl_iload_4 (pc := 27) C dX0_loseCar_27 ?_
      refine gl_iload_1 (pc := 29) C dX0_loseCar_29 ?_
      refine gl_callVi (pc := 30) (ctX0_waitsFor V.1 (sp_lose M c fl tk k) k (by omega) c) C dX0_loseCar_30 gX0_loseCar_X0_waitsFor rfl hdX0_waitsFor ⟨rfl, rfl, Nat.le_of_ble_eq_true rfl, Nat.le_of_ble_eq_true rfl⟩ rfl (Nat.le_of_ble_eq_true rfl) rfl rfl rfl ?_
      refine gl_ifne (pc := 33) 39 C dX0_loseCar_33 (by decide) (fun h33 => ?_) (fun h33 => ?_)
      · skip
        replace h33 := gl_bn.mp h33
        refine gl_iload_5 (pc := 39) C dX0_loseCar_39 ?_
        refine gl_ifeq (pc := 41) 52 C dX0_loseCar_41 (by decide) (fun h41 => ?_) (fun h41 => absurd h41 (not_not_intro (gl_bz.mpr h23)))
        refine gl_iload_5 (pc := 52) C dX0_loseCar_52 ?_
        refine gl_ifeq (pc := 54) 87 C dX0_loseCar_54 (by decide) (fun h54 => ?_) (fun h54 => absurd h54 (not_not_intro (gl_bz.mpr h23)))
        refine gl_aload_0 (pc := 87) C dX0_loseCar_87 ?_
        refine gl_getR (pc := 88) C dX0_loseCar_88 fX0_loseCar_18 rfl rfl ?_
        refine gl_iload_4 (pc := 91) C dX0_loseCar_91 ?_
        refine gl_iconst (pc := 93) (nI 0) C dX0_loseCar_93 (by decide) ?_
        refine gl_iast (pc := 94) _ C dX0_loseCar_94 rfl rfl (by omega) ?_
        refine gl_aload_0 (pc := 95) C dX0_loseCar_95 ?_
        refine gl_getR (pc := 96) C dX0_loseCar_96 fX0_loseCar_21 rfl rfl ?_
        refine gl_iload_4 (pc := 99) C dX0_loseCar_99 ?_
        refine gl_bipush (pc := 101) (-9) C dX0_loseCar_101 (by decide +kernel) ?_
        refine gl_iast (pc := 103) _ C dX0_loseCar_103 rfl rfl (by omega) ?_
        first | with_reducible refine gl_iincN_4 (pc := 104) gl_i1 C dX0_loseCar_104 ?_ | refine gl_iinc_4 (pc := 104) C dX0_loseCar_104 (gl_inc1 _) ?_
        refine gl_goto (pc := 107) 3 C dX0_loseCar_107 (by decide) ?_
        exact gl_on (ih (trivial)) (gl_le_c (rfl) (gl_le_c (rfl) (gl_le_c (rfl) (gl_le_c (rfl) (gl_le_c (rfl) (gl_le_o (gl_le_n))))))) (by grind [sp_lose])
      · skip
        replace h33 := gl_bz.mp h33
        refine gl_goto (pc := 36) 104 C dX0_loseCar_36 (by decide) ?_
        first | with_reducible refine gl_iincN_4 (pc := 104) gl_i1 C dX0_loseCar_104 ?_ | refine gl_iinc_4 (pc := 104) C dX0_loseCar_104 (gl_inc1 _) ?_
        refine gl_goto (pc := 107) 3 C dX0_loseCar_107 (by decide) ?_
        exact gl_on (ih (trivial)) (gl_le_c (rfl) (gl_le_c (rfl) (gl_le_c (rfl) (gl_le_c (rfl) (gl_le_c (rfl) (gl_le_o (gl_le_n))))))) (by grind [sp_lose])
set_option maxRecDepth 100000 in
set_option maxHeartbeats 4000000 in
theorem ctX3_breakCar (F : gl_F) {n m t : Nat} {M : Nat → Int32} (w : sp_W n m t M) (c : Nat) (hc : c < m) : gl_Ct F LH yX3_breakCar wsX3_breakCar rmX3_breakCar [.ref (gl_r F 0), .int (nI c)] M (none) (sp_fail M c t n) := by
  refine gl_met (cc := cX3_breakCar) (maxL := 2) (ret := none) [some (.ref (gl_r F 0)), some (.int (nI c))] (plainFor_of_name (by decide)) rfl ok_LH (by simp [Value.category]) (Nat.le_of_ble_eq_true rfl) rfl (fun V hV C => ?_)
  subst hV
  obtain ⟨hn40, hm5, hn, hm, ht, hcar, hcal⟩ := id w
  refine gl_aload_0 (pc := 0) C dX3_breakCar_0 ?_
  refine gl_getR (pc := 1) C dX3_breakCar_1 fX3_breakCar_18 rfl rfl ?_
  refine gl_getR (pc := 4) C dX3_breakCar_4 fX3_breakCar_50 rfl rfl ?_
  refine gl_iload_1 (pc := 7) C dX3_breakCar_7 ?_
  refine gl_iconst (pc := 8) (nI 2) C dX3_breakCar_8 (by decide) ?_
  refine gl_iast (pc := 9) _ C dX3_breakCar_9 rfl rfl (by omega) ?_
  refine gl_aload_0 (pc := 10) C dX3_breakCar_10 ?_
  refine gl_getR (pc := 11) C dX3_breakCar_11 fX3_breakCar_25 rfl rfl ?_
  refine gl_iload_1 (pc := 14) C dX3_breakCar_14 ?_
  refine gl_aload_0 (pc := 15) C dX3_breakCar_15 ?_
  refine gl_getR (pc := 16) C dX3_breakCar_16 fX3_breakCar_18 rfl rfl ?_
  refine gl_getR (pc := 19) C dX3_breakCar_19 fX3_breakCar_61 rfl rfl ?_
  refine gl_iload_1 (pc := 22) C dX3_breakCar_22 ?_
  refine gl_iald (pc := 23) _ C dX3_breakCar_23 rfl rfl (by omega) ?_
  refine gl_top (rC (by omega) (by omega) (by omega)) ?_
  refine gl_aload_0 (pc := 24) C dX3_breakCar_24 ?_
  refine gl_getI (pc := 25) C dX3_breakCar_25 fX3_breakCar_29 rfl rfl ?_
  refine gl_top (sp_W_st w hc _).2.2.2.2.1 ?_
  refine gl_callVv (pc := 28) (ctX0_loseCar V.1 (sp_W_st w hc (nI 2)) (nI c) (hcar c hc).2.2.1 (nI t)) C dX3_breakCar_28 gX3_breakCar_X0_loseCar rfl hdX0_loseCar ⟨rfl, rfl, Nat.le_of_ble_eq_true rfl, Nat.le_of_ble_eq_true rfl⟩ rfl (Nat.le_of_ble_eq_true rfl) rfl rfl rfl ?_
  exact gl_vret (pc := 31) C dX3_breakCar_31 (rfl)
set_option maxRecDepth 100000 in
set_option maxHeartbeats 4000000 in
theorem ctX0_add (F : gl_F) {n : Nat} (hn40 : n < 40) {M : Nat → Int32} (hn : M 2 = nI n) (f g tk : Int32) : gl_Ct F LH yX0_add wsX0_add rmX0_add [.ref (gl_r F 9), .int f, .int g, .int tk] M (some (.int (nI n))) (sp_addK M n f g tk) := by
  refine gl_met (cc := cX0_add) (maxL := 5) (ret := some .int) [some (.ref (gl_r F 9)), some (.int f), some (.int g), some (.int tk), none] (plainFor_of_name (by decide)) rfl ok_LH (by simp [Value.category]) (Nat.le_of_ble_eq_true rfl) rfl (fun V hV C => ?_)
  subst hV
  refine gl_aload_0 (pc := 0) C dX0_add_0 ?_
  refine gl_getI (pc := 1) C dX0_add_1 fX0_add_36 rfl rfl ?_
  refine gl_top hn ?_
  refine gl_istore_4 (pc := 4) C dX0_add_4 ?_
  refine gl_iload_4 (pc := 6) C dX0_add_6 ?_
  refine gl_bipush (pc := 8) (nI 40) C dX0_add_8 (by decide +kernel) ?_
  refine gl_icmp_lt (pc := 10) 16 C dX0_add_10 (by decide) (fun h10 => ?_) (fun h10 => absurd h10 (not_not_intro (nI_lt hn40 (by omega))))
  refine gl_aload_0 (pc := 16) C dX0_add_16 ?_
  refine gl_getR (pc := 17) C dX0_add_17 fX0_add_9 rfl rfl ?_
  refine gl_iload_4 (pc := 20) C dX0_add_20 ?_
  refine gl_iload_1 (pc := 22) C dX0_add_22 ?_
  refine gl_iast (pc := 23) _ C dX0_add_23 rfl rfl (by omega) ?_
  refine gl_aload_0 (pc := 24) C dX0_add_24 ?_
  refine gl_getR (pc := 25) C dX0_add_25 fX0_add_15 rfl rfl ?_
  refine gl_iload_4 (pc := 28) C dX0_add_28 ?_
  refine gl_iload_2 (pc := 30) C dX0_add_30 ?_
  refine gl_iast (pc := 31) _ C dX0_add_31 rfl rfl (by omega) ?_
  refine gl_aload_0 (pc := 32) C dX0_add_32 ?_
  refine gl_getR (pc := 33) C dX0_add_33 fX0_add_18 rfl rfl ?_
  refine gl_iload_4 (pc := 36) C dX0_add_36 ?_
  refine gl_iconst (pc := 38) (nI 0) C dX0_add_38 (by decide) ?_
  refine gl_iast (pc := 39) _ C dX0_add_39 rfl rfl (by omega) ?_
  refine gl_aload_0 (pc := 40) C dX0_add_40 ?_
  refine gl_getR (pc := 41) C dX0_add_41 fX0_add_21 rfl rfl ?_
  refine gl_iload_4 (pc := 44) C dX0_add_44 ?_
  refine gl_bipush (pc := 46) (-9) C dX0_add_46 (by decide +kernel) ?_
  refine gl_iast (pc := 48) _ C dX0_add_48 rfl rfl (by omega) ?_
  refine gl_aload_0 (pc := 49) C dX0_add_49 ?_
  refine gl_getR (pc := 50) C dX0_add_50 fX0_add_24 rfl rfl ?_
  refine gl_iload_4 (pc := 53) C dX0_add_53 ?_
  refine gl_iload_3 (pc := 55) C dX0_add_55 ?_
  refine gl_iast (pc := 56) _ C dX0_add_56 rfl rfl (by omega) ?_
  refine gl_aload_0 (pc := 57) C dX0_add_57 ?_
  refine gl_getR (pc := 58) C dX0_add_58 fX0_add_27 rfl rfl ?_
  refine gl_iload_4 (pc := 61) C dX0_add_61 ?_
  refine gl_bipush (pc := 63) (-9) C dX0_add_63 (by decide +kernel) ?_
  refine gl_iast (pc := 65) _ C dX0_add_65 rfl rfl (by omega) ?_
  refine gl_aload_0 (pc := 66) C dX0_add_66 ?_
  refine gl_getR (pc := 67) C dX0_add_67 fX0_add_30 rfl rfl ?_
  refine gl_iload_4 (pc := 70) C dX0_add_70 ?_
  refine gl_bipush (pc := 72) (-9) C dX0_add_72 (by decide +kernel) ?_
  refine gl_iast (pc := 74) _ C dX0_add_74 rfl rfl (by omega) ?_
  refine gl_aload_0 (pc := 75) C dX0_add_75 ?_
  refine gl_getR (pc := 76) C dX0_add_76 fX0_add_33 rfl rfl ?_
  refine gl_iload_4 (pc := 79) C dX0_add_79 ?_
  refine gl_iconst (pc := 81) (nI 0) C dX0_add_81 (by decide) ?_
  refine gl_iast (pc := 82) _ C dX0_add_82 rfl rfl (by omega) ?_
  refine gl_aload_0 (pc := 83) C dX0_add_83 ?_
  refine gl_iload_4 (pc := 84) C dX0_add_84 ?_
  refine gl_iconst (pc := 86) (nI 1) C dX0_add_86 (by decide) ?_
  first | with_reducible refine gl_iaddN (pc := 87) C dX0_add_87 ?_ | refine gl_iadd (pc := 87) C dX0_add_87 ?_
  refine gl_put (pc := 88) C dX0_add_88 pX0_add_36 rfl rfl ?_
  refine gl_iload_4 (pc := 91) C dX0_add_91 ?_
  exact gl_iret (pc := 93) C dX0_add_93 (rfl) (rfl)
set_option maxRecDepth 100000 in
set_option maxHeartbeats 4000000 in
theorem ctX1_add (F : gl_F) {m : Nat} (hm5 : m < 5) {M : Nat → Int32} (hm : M 1 = nI m) (lo hi pl : Int32) : gl_Ct F LH yX1_add wsX1_add rmX1_add [.ref (gl_r F 2), .int lo, .int hi, .int pl] M (some (.int (nI m))) (sp_addC M m lo hi pl) := by
  refine gl_met (cc := cX1_add) (maxL := 5) (ret := some .int) [some (.ref (gl_r F 2)), some (.int lo), some (.int hi), some (.int pl), none] (plainFor_of_name (by decide)) rfl ok_LH (by simp [Value.category]) (Nat.le_of_ble_eq_true rfl) rfl (fun V hV C => ?_)
  subst hV
  refine gl_aload_0 (pc := 0) C dX1_add_0 ?_
  refine gl_getI (pc := 1) C dX1_add_1 fX1_add_30 rfl rfl ?_
  refine gl_top hm ?_
  refine gl_istore_4 (pc := 4) C dX1_add_4 ?_
  refine gl_iload_4 (pc := 6) C dX1_add_6 ?_
  refine gl_iconst (pc := 8) (nI 5) C dX1_add_8 (by decide) ?_
  refine gl_icmp_lt (pc := 9) 15 C dX1_add_9 (by decide) (fun h9 => ?_) (fun h9 => absurd h9 (not_not_intro (nI_lt hm5 (by omega))))
  refine gl_aload_0 (pc := 15) C dX1_add_15 ?_
  refine gl_getR (pc := 16) C dX1_add_16 fX1_add_9 rfl rfl ?_
  refine gl_iload_4 (pc := 19) C dX1_add_19 ?_
  refine gl_iload_1 (pc := 21) C dX1_add_21 ?_
  refine gl_iast (pc := 22) _ C dX1_add_22 rfl rfl (by omega) ?_
  refine gl_aload_0 (pc := 23) C dX1_add_23 ?_
  refine gl_getR (pc := 24) C dX1_add_24 fX1_add_15 rfl rfl ?_
  refine gl_iload_4 (pc := 27) C dX1_add_27 ?_
  refine gl_iload_2 (pc := 29) C dX1_add_29 ?_
  refine gl_iast (pc := 30) _ C dX1_add_30 rfl rfl (by omega) ?_
  refine gl_aload_0 (pc := 31) C dX1_add_31 ?_
  refine gl_getR (pc := 32) C dX1_add_32 fX1_add_18 rfl rfl ?_
  refine gl_iload_4 (pc := 35) C dX1_add_35 ?_
  refine gl_iload_3 (pc := 37) C dX1_add_37 ?_
  refine gl_iast (pc := 38) _ C dX1_add_38 rfl rfl (by omega) ?_
  refine gl_aload_0 (pc := 39) C dX1_add_39 ?_
  refine gl_getR (pc := 40) C dX1_add_40 fX1_add_21 rfl rfl ?_
  refine gl_iload_4 (pc := 43) C dX1_add_43 ?_
  refine gl_iload_1 (pc := 45) C dX1_add_45 ?_
  refine gl_iast (pc := 46) _ C dX1_add_46 rfl rfl (by omega) ?_
  refine gl_aload_0 (pc := 47) C dX1_add_47 ?_
  refine gl_getR (pc := 48) C dX1_add_48 fX1_add_24 rfl rfl ?_
  refine gl_iload_4 (pc := 51) C dX1_add_51 ?_
  refine gl_iconst (pc := 53) (nI 0) C dX1_add_53 (by decide) ?_
  refine gl_iast (pc := 54) _ C dX1_add_54 rfl rfl (by omega) ?_
  refine gl_aload_0 (pc := 55) C dX1_add_55 ?_
  refine gl_getR (pc := 56) C dX1_add_56 fX1_add_27 rfl rfl ?_
  refine gl_iload_4 (pc := 59) C dX1_add_59 ?_
  refine gl_iconst (pc := 61) (nI 0) C dX1_add_61 (by decide) ?_
  refine gl_iast (pc := 62) _ C dX1_add_62 rfl rfl (by omega) ?_
  refine gl_aload_0 (pc := 63) C dX1_add_63 ?_
  refine gl_iload_4 (pc := 64) C dX1_add_64 ?_
  refine gl_iconst (pc := 66) (nI 1) C dX1_add_66 (by decide) ?_
  first | with_reducible refine gl_iaddN (pc := 67) C dX1_add_67 ?_ | refine gl_iadd (pc := 67) C dX1_add_67 ?_
  refine gl_put (pc := 68) C dX1_add_68 pX1_add_30 rfl rfl ?_
  refine gl_iload_4 (pc := 71) C dX1_add_71 ?_
  exact gl_iret (pc := 73) C dX1_add_73 (rfl) (rfl)
