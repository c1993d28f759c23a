theorem fX4_addCar_10 : gl_fl wsX4_addCar RX4 10 4 0 := ⟨RX4, TX4, 3, RX4, rfl, by decide, by decide +kernel, by decide +kernel, rfl⟩
theorem fX4_addCar_22 : gl_fl wsX4_addCar RX4 22 4 2 := ⟨RX4, TX4, 3, RX4, rfl, by decide, by decide +kernel, by decide +kernel, rfl⟩
theorem fX4_addCar_30 : gl_fl wsX4_addCar RX4 30 3 2 := ⟨RX3, TX3, 4, RX3, rfl, by decide, by decide +kernel, by decide +kernel, rfl⟩
theorem fX4_addCar_34 : gl_fl wsX4_addCar RX4 34 1 0 := ⟨RX1, TX1, 8, RX1, rfl, by decide, by decide +kernel, by decide +kernel, rfl⟩
theorem fX4_setAwake_10 : gl_fl wsX4_setAwake RX4 10 4 0 := ⟨RX4, TX4, 3, RX4, rfl, by decide, by decide +kernel, by decide +kernel, rfl⟩
theorem fX4_setAwake_22 : gl_fl wsX4_setAwake RX4 22 4 2 := ⟨RX4, TX4, 3, RX4, rfl, by decide, by decide +kernel, by decide +kernel, rfl⟩
theorem fX4_setAwake_48 : gl_fl wsX4_setAwake RX4 48 3 1 := ⟨RX3, TX3, 4, RX3, rfl, by decide, by decide +kernel, by decide +kernel, rfl⟩
theorem fX4_hold_10 : gl_fl wsX4_hold RX4 10 4 0 := ⟨RX4, TX4, 3, RX4, rfl, by decide, by decide +kernel, by decide +kernel, rfl⟩
theorem fX4_hold_22 : gl_fl wsX4_hold RX4 22 4 2 := ⟨RX4, TX4, 3, RX4, rfl, by decide, by decide +kernel, by decide +kernel, rfl⟩
theorem fX4_hold_30 : gl_fl wsX4_hold RX4 30 3 2 := ⟨RX3, TX3, 4, RX3, rfl, by decide, by decide +kernel, by decide +kernel, rfl⟩
theorem fX4_hold_55 : gl_fl wsX4_hold RX4 55 1 6 := ⟨RX1, TX1, 8, RX1, rfl, by decide, by decide +kernel, by decide +kernel, rfl⟩
theorem fX4_hold_58 : gl_fl wsX4_hold RX4 58 3 3 := ⟨RX3, TX3, 4, RX3, rfl, by decide, by decide +kernel, by decide +kernel, rfl⟩
theorem fX4_fail_10 : gl_fl wsX4_fail RX4 10 4 0 := ⟨RX4, TX4, 3, RX4, rfl, by decide, by decide +kernel, by decide +kernel, rfl⟩
theorem fX4_fail_22 : gl_fl wsX4_fail RX4 22 4 2 := ⟨RX4, TX4, 3, RX4, rfl, by decide, by decide +kernel, by decide +kernel, rfl⟩
theorem fX4_fail_30 : gl_fl wsX4_fail RX4 30 3 2 := ⟨RX3, TX3, 4, RX3, rfl, by decide, by decide +kernel, by decide +kernel, rfl⟩
theorem fX4_fail_55 : gl_fl wsX4_fail RX4 55 1 6 := ⟨RX1, TX1, 8, RX1, rfl, by decide, by decide +kernel, by decide +kernel, rfl⟩
theorem fX4_fail_58 : gl_fl wsX4_fail RX4 58 3 3 := ⟨RX3, TX3, 4, RX3, rfl, by decide, by decide +kernel, by decide +kernel, rfl⟩
theorem fX4_repair_10 : gl_fl wsX4_repair RX4 10 4 0 := ⟨RX4, TX4, 3, RX4, rfl, by decide, by decide +kernel, by decide +kernel, rfl⟩
theorem fX4_repair_22 : gl_fl wsX4_repair RX4 22 4 2 := ⟨RX4, TX4, 3, RX4, rfl, by decide, by decide +kernel, by decide +kernel, rfl⟩
theorem fX4_repair_30 : gl_fl wsX4_repair RX4 30 3 2 := ⟨RX3, TX3, 4, RX3, rfl, by decide, by decide +kernel, by decide +kernel, rfl⟩
theorem fX4_repair_55 : gl_fl wsX4_repair RX4 55 1 6 := ⟨RX1, TX1, 8, RX1, rfl, by decide, by decide +kernel, by decide +kernel, rfl⟩
theorem fX4_repair_75 : gl_fl wsX4_repair RX4 75 1 5 := ⟨RX1, TX1, 8, RX1, rfl, by decide, by decide +kernel, by decide +kernel, rfl⟩
theorem fX4_call_10 : gl_fl wsX4_call RX4 10 4 0 := ⟨RX4, TX4, 3, RX4, rfl, by decide, by decide +kernel, by decide +kernel, rfl⟩
theorem fX4_call_22 : gl_fl wsX4_call RX4 22 4 2 := ⟨RX4, TX4, 3, RX4, rfl, by decide, by decide +kernel, by decide +kernel, rfl⟩
theorem fX4_call_58 : gl_fl wsX4_call RX4 58 3 3 := ⟨RX3, TX3, 4, RX3, rfl, by decide, by decide +kernel, by decide +kernel, rfl⟩
theorem fX4_call_82 : gl_fl wsX4_call RX4 82 0 0 := ⟨RX0, TX0, 9, RX0, rfl, by decide, by decide +kernel, by decide +kernel, rfl⟩
theorem fX4_call_87 : gl_fl wsX4_call RX4 87 3 0 := ⟨RX3, TX3, 4, RX3, rfl, by decide, by decide +kernel, by decide +kernel, rfl⟩
theorem fX4_pass_10 : gl_fl wsX4_pass RX4 10 4 0 := ⟨RX4, TX4, 3, RX4, rfl, by decide, by decide +kernel, by decide +kernel, rfl⟩
theorem fX4_pass_22 : gl_fl wsX4_pass RX4 22 4 2 := ⟨RX4, TX4, 3, RX4, rfl, by decide, by decide +kernel, by decide +kernel, rfl⟩
theorem fX4_pass_58 : gl_fl wsX4_pass RX4 58 3 3 := ⟨RX3, TX3, 4, RX3, rfl, by decide, by decide +kernel, by decide +kernel, rfl⟩
theorem fX4_pass_87 : gl_fl wsX4_pass RX4 87 3 0 := ⟨RX3, TX3, 4, RX3, rfl, by decide, by decide +kernel, by decide +kernel, rfl⟩
set_option maxRecDepth 100000 in
set_option maxHeartbeats 4000000 in
theorem ctX4_addCar (F : gl_F) {n m t : Nat} {G S : Nat → Int32} (w : sp_W n m t S) (ht31 : t < 2000000) (hS : sp_ag G 0 S) {p q : Nat} (hp5 : p ≤ 5) (hp : G 2646 = nI p) (hq5 : q < 5) (hq : G 2647 = nI q) (lo hi pl : Int32) : gl_Ct F LC yX4_addCar wsX4_addCar rmX4_addCar [.ref (gl_r F 126), .int lo, .int hi, .int pl] G (some (.int (pa_addCar m lo hi pl))) (if sp_okC lo hi pl ∧ ¬ m = 5 then sp_blk (sp_keepC G p q) 0 (sp_addC S m lo hi pl) else G) := by
  refine gl_met (cc := cX4_addCar) (maxL := 4) (ret := some .int) [some (.ref (gl_r F 126)), some (.int lo), some (.int hi), some (.int pl)] (plainFor_of_name (by decide)) rfl ok_LC (by simp [Value.category]) (Nat.le_of_ble_eq_true rfl) rfl (fun V hV C => ?_)
  subst hV
  obtain ⟨hn40, hm5, hn, hm, ht, hcar, hcal⟩ := id w
  have h0 := sp_ag_0 hS
  have hk := sp_keepC_0 (p := p) hq5 hS
  have h0k := sp_ag_0 hk
  refine gl_iload_1 (pc := 0) C dX4_addCar_0 ?_
  refine gl_callSi (pc := 1) (ctX4_isFloor V.1 G lo) C dX4_addCar_1 gX4_addCar_X4_isFloor rfl hdX4_isFloor ⟨rfl, rfl, Nat.le_of_ble_eq_true rfl, Nat.le_of_ble_eq_true rfl⟩ rfl (Nat.le_of_ble_eq_true rfl) rfl ?_
  refine gl_ifeq (pc := 4) 19 C dX4_addCar_4 (by decide) (fun h4 => ?_) (fun h4 => ?_)
  · skip
    replace h4 := gl_bz.mp h4
    have hno : ¬ sp_okC lo hi pl := fun q => h4 q.1
    refine gl_iconst (pc := 19) (-1) C dX4_addCar_19 (by decide) ?_
    exact gl_iret (pc := 20) C dX4_addCar_20 (by rw [pa_addCar, if_neg hno]) ((if_neg (fun q => hno q.1)).symm)
  · skip
    replace h4 := gl_bn.mp h4
    refine gl_iload_2 (pc := 7) C dX4_addCar_7 ?_
    refine gl_callSi (pc := 8) (ctX4_isFloor V.1 G hi) C dX4_addCar_8 gX4_addCar_X4_isFloor rfl hdX4_isFloor ⟨rfl, rfl, Nat.le_of_ble_eq_true rfl, Nat.le_of_ble_eq_true rfl⟩ rfl (Nat.le_of_ble_eq_true rfl) rfl ?_
    refine gl_ifeq (pc := 11) 19 C dX4_addCar_11 (by decide) (fun h11 => ?_) (fun h11 => ?_)
    · skip
      replace h11 := gl_bz.mp h11
      have hno : ¬ sp_okC lo hi pl := fun q => h11 q.2.1
      refine gl_iconst (pc := 19) (-1) C dX4_addCar_19 (by decide) ?_
      exact gl_iret (pc := 20) C dX4_addCar_20 (by rw [pa_addCar, if_neg hno]) ((if_neg (fun q => hno q.1)).symm)
    · skip
      replace h11 := gl_bn.mp h11
      refine gl_iload_2 (pc := 14) C dX4_addCar_14 ?_
      refine gl_iload_1 (pc := 15) C dX4_addCar_15 ?_
      refine gl_icmp_gt (pc := 16) 21 C dX4_addCar_16 (by decide) (fun h16 => ?_) (fun h16 => ?_)
      · skip
        replace h16 := Int32.not_le.mpr h16
        refine gl_iload_3 (pc := 21) C dX4_addCar_21 ?_
        refine gl_iconst (pc := 22) (nI 1) C dX4_addCar_22 (by decide) ?_
        refine gl_icmp_lt (pc := 23) 32 C dX4_addCar_23 (by decide) (fun h23 => ?_) (fun h23 => ?_)
        · skip
          have hno : ¬ sp_okC lo hi pl := fun q => q.2.2.2.1 h23
          refine gl_iconst (pc := 32) (-1) C dX4_addCar_32 (by decide) ?_
          exact gl_iret (pc := 33) C dX4_addCar_33 (by rw [pa_addCar, if_neg hno]) ((if_neg (fun q => hno q.1)).symm)
        · skip
          refine gl_iload_3 (pc := 26) C dX4_addCar_26 ?_
          refine gl_bipush (pc := 27) (nI 8) C dX4_addCar_27 (by decide +kernel) ?_
          refine gl_icmp_le (pc := 29) 34 C dX4_addCar_29 (by decide) (fun h29 => ?_) (fun h29 => ?_)
          · skip
            have hok : sp_okC lo hi pl := ⟨h4, h11, h16, h23, Int32.not_lt.mpr h29⟩
            refine gl_aload_0 (pc := 34) C dX4_addCar_34 ?_
            refine gl_getR (pc := 35) C dX4_addCar_35 fX4_addCar_10 rfl rfl ?_
            refine gl_getR (pc := 38) C dX4_addCar_38 fX4_addCar_30 rfl rfl ?_
            refine gl_getI (pc := 41) C dX4_addCar_41 fX4_addCar_34 rfl rfl ?_
            refine gl_top ((h0 1 (by omega)).trans hm) ?_
            refine gl_iconst (pc := 44) (nI 5) C dX4_addCar_44 (by decide) ?_
            refine gl_icmp_lt (pc := 45) 51 C dX4_addCar_45 (by decide) (fun h45 => ?_) (fun h45 => ?_)
            · skip
              rw [nI_ltI (by omega) (by omega)] at h45
              have hQ : ¬ m = 5 := by omega
              refine gl_aload_0 (pc := 51) C dX4_addCar_51 ?_
              refine gl_getR (pc := 52) C dX4_addCar_52 fX4_addCar_22 rfl rfl ?_
              refine gl_aload_0 (pc := 55) C dX4_addCar_55 ?_
              refine gl_getR (pc := 56) C dX4_addCar_56 fX4_addCar_10 rfl rfl ?_
              refine gl_callVv (pc := 59) (ctX2_keep V.1 G hp5 hp hq5 hq) C dX4_addCar_59 gX4_addCar_X2_keep rfl hdX2_keep ⟨rfl, rfl, Nat.le_of_ble_eq_true rfl, Nat.le_of_ble_eq_true rfl⟩ rfl (Nat.le_of_ble_eq_true rfl) rfl rfl rfl ?_
              refine gl_aload_0 (pc := 62) C dX4_addCar_62 ?_
              refine gl_getR (pc := 63) C dX4_addCar_63 fX4_addCar_10 rfl rfl ?_
              refine gl_getR (pc := 66) C dX4_addCar_66 fX4_addCar_30 rfl rfl ?_
              refine gl_iload_1 (pc := 69) C dX4_addCar_69 ?_
              refine gl_iload_2 (pc := 70) C dX4_addCar_70 ?_
              refine gl_iload_3 (pc := 71) C dX4_addCar_71 ?_
              refine gl_callVi (pc := 72) (gl_up1 0 (by omega) hk (ctX1_add (gl_sh V.1 (gl_eH 0)) (m := m) (by omega) hm lo hi pl)) C dX4_addCar_72 gX4_addCar_X1_add rfl hdX1_add ⟨rfl, rfl, Nat.le_of_ble_eq_true rfl, Nat.le_of_ble_eq_true rfl⟩ rfl (Nat.le_of_ble_eq_true rfl) rfl rfl rfl ?_
              exact gl_iret (pc := 75) C dX4_addCar_75 (by rw [pa_addCar, if_pos hok, if_neg hQ]) ((if_pos ⟨hok, hQ⟩).symm)
            · skip
              rw [nI_ltI (by omega) (by omega)] at h45
              have hQ : m = 5 := by omega
              refine gl_bipush (pc := 48) (-3) C dX4_addCar_48 (by decide +kernel) ?_
              exact gl_iret (pc := 50) C dX4_addCar_50 (by rw [pa_addCar, if_pos hok, if_pos hQ]) ((if_neg (fun q => q.2 hQ)).symm)
          · skip
            have hno : ¬ sp_okC lo hi pl := fun q => q.2.2.2.2 (Int32.not_le.mp h29)
            refine gl_iconst (pc := 32) (-1) C dX4_addCar_32 (by decide) ?_
            exact gl_iret (pc := 33) C dX4_addCar_33 (by rw [pa_addCar, if_neg hno]) ((if_neg (fun q => hno q.1)).symm)
      · skip
        replace h16 := Int32.not_lt.mp h16
        have hno : ¬ sp_okC lo hi pl := fun q => q.2.2.1 h16
        refine gl_iconst (pc := 19) (-1) C dX4_addCar_19 (by decide) ?_
        exact gl_iret (pc := 20) C dX4_addCar_20 (by rw [pa_addCar, if_neg hno]) ((if_neg (fun q => hno q.1)).symm)
set_option maxRecDepth 100000 in
set_option maxHeartbeats 4000000 in
theorem ctX4_setAwake (F : gl_F) {n m t : Nat} {G S : Nat → Int32} (w : sp_W n m t S) (ht31 : t < 2000000) (hS : sp_ag G 0 S) {p q : Nat} (hp5 : p ≤ 5) (hp : G 2646 = nI p) (hq5 : q < 5) (hq : G 2647 = nI q) (x y : Int32) : gl_Ct F LC yX4_setAwake wsX4_setAwake rmX4_setAwake [.ref (gl_r F 126), .int x, .int y] G (some (.int (pa_awake S x y))) (if sp_okA x y then sp_blk (sp_keepC G p q) 0 (upd S (4 + cN x) y) else G) := by
  refine gl_met (cc := cX4_setAwake) (maxL := 4) (ret := some .int) [some (.ref (gl_r F 126)), some (.int x), some (.int y), none] (plainFor_of_name (by decide)) rfl ok_LC (by simp [Value.category]) (Nat.le_of_ble_eq_true rfl) rfl (fun V hV C => ?_)
  subst hV
  obtain ⟨hn40, hm5, hn, hm, ht, hcar, hcal⟩ := id w
  have h0 := sp_ag_0 hS
  have hk := sp_keepC_0 (p := p) hq5 hS
  have h0k := sp_ag_0 hk
  have hin := sp_okA_in x y
  refine gl_iload_1 (pc := 0) C dX4_setAwake_0 ?_
  refine gl_iflt (pc := 1) 20 C dX4_setAwake_1 (by decide) (fun h1 => ?_) (fun h1 => ?_)
  · skip
    have hno : ¬ sp_okA x y := fun q => (hin.mpr q).1 h1
    refine gl_iconst (pc := 20) (-1) C dX4_setAwake_20 (by decide) ?_
    exact gl_iret (pc := 21) C dX4_setAwake_21 (by rw [pa_awake, if_neg hno]) ((if_neg hno).symm)
  · skip
    refine gl_iload_1 (pc := 4) C dX4_setAwake_4 ?_
    refine gl_bipush (pc := 5) (nI 24) C dX4_setAwake_5 (by decide +kernel) ?_
    refine gl_icmp_ge (pc := 7) 20 C dX4_setAwake_7 (by decide) (fun h7 => ?_) (fun h7 => ?_)
    · skip
      have hno : ¬ sp_okA x y := fun q => (hin.mpr q).2.1 h7
      refine gl_iconst (pc := 20) (-1) C dX4_setAwake_20 (by decide) ?_
      exact gl_iret (pc := 21) C dX4_setAwake_21 (by rw [pa_awake, if_neg hno]) ((if_neg hno).symm)
    · skip
      refine gl_iload_2 (pc := 10) C dX4_setAwake_10 ?_
      refine gl_iconst (pc := 11) (nI 1) C dX4_setAwake_11 (by decide) ?_
      refine gl_icmp_lt (pc := 12) 20 C dX4_setAwake_12 (by decide) (fun h12 => ?_) (fun h12 => ?_)
      · skip
        have hno : ¬ sp_okA x y := fun q => (hin.mpr q).2.2.1 h12
        refine gl_iconst (pc := 20) (-1) C dX4_setAwake_20 (by decide) ?_
        exact gl_iret (pc := 21) C dX4_setAwake_21 (by rw [pa_awake, if_neg hno]) ((if_neg hno).symm)
      · skip
        refine gl_iload_2 (pc := 15) C dX4_setAwake_15 ?_
        refine gl_iconst (pc := 16) (nI 5) C dX4_setAwake_16 (by decide) ?_
        refine gl_icmp_le (pc := 17) 22 C dX4_setAwake_17 (by decide) (fun h17 => ?_) (fun h17 => ?_)
        · skip
          have hok := hin.mp ⟨h1, h7, h12, h17⟩
          obtain ⟨c, -, hc, rfl⟩ := sp_inr_n (by omega) (by omega) hok.1
          have hcN : cN (nI c) = c := nI_clamp (by omega)
          refine gl_aload_0 (pc := 22) C dX4_setAwake_22 ?_
          refine gl_getR (pc := 23) C dX4_setAwake_23 fX4_setAwake_22 rfl rfl ?_
          refine gl_aload_0 (pc := 26) C dX4_setAwake_26 ?_
          refine gl_getR (pc := 27) C dX4_setAwake_27 fX4_setAwake_10 rfl rfl ?_
          refine gl_callVv (pc := 30) (ctX2_keep V.1 G hp5 hp hq5 hq) C dX4_setAwake_30 gX4_setAwake_X2_keep rfl hdX2_keep ⟨rfl, rfl, Nat.le_of_ble_eq_true rfl, Nat.le_of_ble_eq_true rfl⟩ rfl (Nat.le_of_ble_eq_true rfl) rfl rfl rfl ?_
          refine gl_aload_0 (pc := 33) C dX4_setAwake_33 ?_
          refine gl_getR (pc := 34) C dX4_setAwake_34 fX4_setAwake_10 rfl rfl ?_
          refine gl_getR (pc := 37) C dX4_setAwake_37 fX4_setAwake_48 rfl rfl ?_
          refine gl_iload_1 (pc := 40) C dX4_setAwake_40 ?_
          refine gl_iald (pc := 41) _ C dX4_setAwake_41 rfl rfl (by omega) ?_
          refine gl_top (h0k (4 + c) (by first | (unfold iC; omega) | (unfold iK; omega) | omega)) ?_
          refine gl_istore_3 (pc := 42) C dX4_setAwake_42 ?_
          refine gl_aload_0 (pc := 43) C dX4_setAwake_43 ?_
          refine gl_getR (pc := 44) C dX4_setAwake_44 fX4_setAwake_10 rfl rfl ?_
          refine gl_getR (pc := 47) C dX4_setAwake_47 fX4_setAwake_48 rfl rfl ?_
          refine gl_iload_1 (pc := 50) C dX4_setAwake_50 ?_
          refine gl_iload_2 (pc := 51) C dX4_setAwake_51 ?_
          refine gl_iast (pc := 52) _ C dX4_setAwake_52 rfl rfl (by omega) ?_
          refine gl_iload_3 (pc := 53) C dX4_setAwake_53 ?_
          exact gl_iret (pc := 54) C dX4_setAwake_54 (by rw [pa_awake, if_pos hok, hcN]) (by rw [if_pos hok, hcN]; exact sp_blk_upd hk (by omega) _)
        · skip
          have hno : ¬ sp_okA x y := fun q => h17 (hin.mpr q).2.2.2
          refine gl_iconst (pc := 20) (-1) C dX4_setAwake_20 (by decide) ?_
          exact gl_iret (pc := 21) C dX4_setAwake_21 (by rw [pa_awake, if_neg hno]) ((if_neg hno).symm)
set_option maxRecDepth 100000 in
set_option maxHeartbeats 4000000 in
theorem ctX4_hold (F : gl_F) {n m t : Nat} {G S : Nat → Int32} (w : sp_W n m t S) (ht31 : t < 2000000) (hS : sp_ag G 0 S) {p q : Nat} (hp5 : p ≤ 5) (hp : G 2646 = nI p) (hq5 : q < 5) (hq : G 2647 = nI q) (x y : Int32) : gl_Ct F LC yX4_hold wsX4_hold rmX4_hold [.ref (gl_r F 126), .int x, .int y] G (some (.int (pa_hold S n m x y))) (if ok_hold S m x y then sp_blk (sp_keepC G p q) 0 (upd S (iC (cN x) 4) y) else G) := by
  refine gl_met (cc := cX4_hold) (maxL := 5) (ret := some .int) [some (.ref (gl_r F 126)), some (.int x), some (.int y), none, none] (plainFor_of_name (by decide)) rfl ok_LC (by simp [Value.category]) (Nat.le_of_ble_eq_true rfl) rfl (fun V hV C => ?_)
  subst hV
  obtain ⟨hn40, hm5, hn, hm, ht, hcar, hcal⟩ := id w
  have h0 := sp_ag_0 hS
  have hk := sp_keepC_0 (p := p) hq5 hS
  have h0k := sp_ag_0 hk
  refine gl_aload_0 (pc := 0) C dX4_hold_0 ?_
  refine gl_getR (pc := 1) C dX4_hold_1 fX4_hold_10 rfl rfl ?_
  refine gl_getR (pc := 4) C dX4_hold_4 fX4_hold_30 rfl rfl ?_
  refine gl_iload_1 (pc := 7) C dX4_hold_7 ?_
  refine gl_callVi (pc := 8) (gl_up1r 0 (by omega) hS (ctX1_has (gl_sh V.1 (gl_eH 0)) S x)) C dX4_hold_8 gX4_hold_X1_has rfl hdX1_has ⟨rfl, rfl, Nat.le_of_ble_eq_true rfl, Nat.le_of_ble_eq_true rfl⟩ rfl (Nat.le_of_ble_eq_true rfl) rfl rfl rfl ?_
  refine gl_ifeq (pc := 11) 23 C dX4_hold_11 (by decide) (fun h11 => ?_) (fun h11 => ?_)
  · skip
    replace h11 := gl_bz.mp h11
    rw [hm] at h11
    have hno : ¬ (sp_has x (nI m) ∧ sp_inr y (nI 0) (nI 1)) := fun q => h11 q.1
    refine gl_iconst (pc := 23) (-1) C dX4_hold_23 (by decide) ?_
    exact gl_iret (pc := 24) C dX4_hold_24 (by rw [pa_hold, if_neg hno]) ((if_neg (fun q => hno q.1)).symm)
  · skip
    replace h11 := gl_bn.mp h11
    rw [hm] at h11
    refine gl_iload_2 (pc := 14) C dX4_hold_14 ?_
    refine gl_iflt (pc := 15) 23 C dX4_hold_15 (by decide) (fun h15 => ?_) (fun h15 => ?_)
    · skip
      have hno : ¬ (sp_has x (nI m) ∧ sp_inr y (nI 0) (nI 1)) := fun q => ((sp_in0 y 1).mpr q.2).1 h15
      refine gl_iconst (pc := 23) (-1) C dX4_hold_23 (by decide) ?_
      exact gl_iret (pc := 24) C dX4_hold_24 (by rw [pa_hold, if_neg hno]) ((if_neg (fun q => hno q.1)).symm)
    · skip
      refine gl_iload_2 (pc := 18) C dX4_hold_18 ?_
      refine gl_iconst (pc := 19) (nI 1) C dX4_hold_19 (by decide) ?_
      refine gl_icmp_le (pc := 20) 25 C dX4_hold_20 (by decide) (fun h20 => ?_) (fun h20 => ?_)
      · skip
        have hy := (sp_in0 y 1).mp ⟨h15, h20⟩
        have hok := And.intro h11 hy
        have hok0 := h11
        obtain ⟨c, hc, rfl⟩ := sp_has_n (by omega) hok0
        have hcN : cN (nI c) = c := nI_clamp (by omega)
        have hc5 : c < 5 := by omega
        refine gl_iload_2 (pc := 25) C dX4_hold_25 ?_
        refine gl_iconst (pc := 26) (nI 1) C dX4_hold_26 (by decide) ?_
        refine gl_icmp_ne (pc := 27) 34 C dX4_hold_27 (by decide) (fun h27 => ?_) (fun h27 => ?_)
        · skip
          have e0 : y = nI 0 := (sp_h01 hy).resolve_right h27
          subst e0
          refine gl_iconst (pc := 34) (nI 0) C dX4_hold_34 (by decide) ?_
          refine gl_istore_3 (pc := 35) C dX4_hold_35 ?_
          refine gl_aload_0 (pc := 36) C dX4_hold_36 ?_
          refine gl_getR (pc := 37) C dX4_hold_37 fX4_hold_10 rfl rfl ?_
          refine gl_getR (pc := 40) C dX4_hold_40 fX4_hold_30 rfl rfl ?_
          refine gl_getR (pc := 43) C dX4_hold_43 fX4_hold_55 rfl rfl ?_
          refine gl_iload_1 (pc := 46) C dX4_hold_46 ?_
          refine gl_iald (pc := 47) _ C dX4_hold_47 rfl rfl (by omega) ?_
          refine gl_top (h0 (iC c 4) (by first | (unfold iC; omega) | (unfold iK; omega) | omega)) ?_
          refine gl_istore_4 (pc := 48) C dX4_hold_48 ?_
          refine gl_iload_4 (pc := 50) C dX4_hold_50 ?_
          refine gl_iconst (pc := 52) (nI 2) C dX4_hold_52 (by decide) ?_
          refine gl_icmp_eq (pc := 53) 62 C dX4_hold_53 (by decide) (fun h53 => ?_) (fun h53 => ?_)
          · skip
            refine gl_bipush (pc := 62) (-2) C dX4_hold_62 (by decide +kernel) ?_
            exact gl_iret (pc := 64) C dX4_hold_64 (by rw [pa_hold, if_pos hok, hcN, if_pos]; first | exact Or.inl h53 | exact Or.inr h59) ((if_neg (fun q => q.2 (by rw [hcN]; first | exact Or.inl h53 | exact Or.inr h59))).symm)
          · skip
            refine gl_iload_4 (pc := 56) C dX4_hold_56 ?_
            refine gl_iload_3 (pc := 58) C dX4_hold_58 ?_
            refine gl_icmp_ne (pc := 59) 65 C dX4_hold_59 (by decide) (fun h59 => ?_) (fun h59 => ?_)
            · skip
              have hQ : ¬ (S (iC c 4) = nI 2 ∨ S (iC c 4) = _) := fun q => q.elim h53 h59
              refine gl_aload_0 (pc := 65) C dX4_hold_65 ?_
              refine gl_getR (pc := 66) C dX4_hold_66 fX4_hold_22 rfl rfl ?_
              refine gl_aload_0 (pc := 69) C dX4_hold_69 ?_
              refine gl_getR (pc := 70) C dX4_hold_70 fX4_hold_10 rfl rfl ?_
              refine gl_callVv (pc := 73) (ctX2_keep V.1 G hp5 hp hq5 hq) C dX4_hold_73 gX4_hold_X2_keep rfl hdX2_keep ⟨rfl, rfl, Nat.le_of_ble_eq_true rfl, Nat.le_of_ble_eq_true rfl⟩ rfl (Nat.le_of_ble_eq_true rfl) rfl rfl rfl ?_
              refine gl_aload_0 (pc := 76) C dX4_hold_76 ?_
              refine gl_getR (pc := 77) C dX4_hold_77 fX4_hold_10 rfl rfl ?_
              refine gl_getR (pc := 80) C dX4_hold_80 fX4_hold_30 rfl rfl ?_
              refine gl_getR (pc := 83) C dX4_hold_83 fX4_hold_55 rfl rfl ?_
              refine gl_iload_1 (pc := 86) C dX4_hold_86 ?_
              refine gl_iload_3 (pc := 87) C dX4_hold_87 ?_
              refine gl_iast (pc := 88) _ C dX4_hold_88 rfl rfl (by omega) ?_
              refine gl_mem (sp_blk_upd hk (by unfold iC; omega) _) ?_
              refine gl_aload_0 (pc := 89) C dX4_hold_89 ?_
              refine gl_getR (pc := 90) C dX4_hold_90 fX4_hold_10 rfl rfl ?_
              refine gl_getR (pc := 93) C dX4_hold_93 fX4_hold_58 rfl rfl ?_
              refine gl_iload_1 (pc := 96) C dX4_hold_96 ?_
              refine gl_callVi (pc := 97) (gl_up1r 0 (by omega) sp_blk_ag (ctX0_numberWith (gl_sh V.1 (gl_eH 0)) hn40 (sp_W_st w hc _).2.2.1 (nI c))) C dX4_hold_97 gX4_hold_X0_numberWith rfl hdX0_numberWith ⟨rfl, rfl, Nat.le_of_ble_eq_true rfl, Nat.le_of_ble_eq_true rfl⟩ rfl (Nat.le_of_ble_eq_true rfl) rfl rfl rfl ?_
              exact gl_iret (pc := 100) C dX4_hold_100 (by rw [pa_hold, if_pos hok, hcN, if_neg hQ]) (by rw [if_pos ⟨hok, by rw [hcN]; exact hQ⟩, hcN])
            · skip
              have hQ : S (iC c 4) = nI 2 ∨ S (iC c 4) = _ := Or.inr h59
              refine gl_bipush (pc := 62) (-2) C dX4_hold_62 (by decide +kernel) ?_
              exact gl_iret (pc := 64) C dX4_hold_64 (by rw [pa_hold, if_pos hok, hcN, if_pos]; first | exact Or.inl h53 | exact Or.inr h59) ((if_neg (fun q => q.2 (by rw [hcN]; first | exact Or.inl h53 | exact Or.inr h59))).symm)
        · skip
          subst h27
          refine gl_iconst (pc := 30) (nI 1) C dX4_hold_30 (by decide) ?_
          refine gl_goto (pc := 31) 35 C dX4_hold_31 (by decide) ?_
          refine gl_istore_3 (pc := 35) C dX4_hold_35 ?_
          refine gl_aload_0 (pc := 36) C dX4_hold_36 ?_
          refine gl_getR (pc := 37) C dX4_hold_37 fX4_hold_10 rfl rfl ?_
          refine gl_getR (pc := 40) C dX4_hold_40 fX4_hold_30 rfl rfl ?_
          refine gl_getR (pc := 43) C dX4_hold_43 fX4_hold_55 rfl rfl ?_
          refine gl_iload_1 (pc := 46) C dX4_hold_46 ?_
          refine gl_iald (pc := 47) _ C dX4_hold_47 rfl rfl (by omega) ?_
          refine gl_top (h0 (iC c 4) (by first | (unfold iC; omega) | (unfold iK; omega) | omega)) ?_
          refine gl_istore_4 (pc := 48) C dX4_hold_48 ?_
          refine gl_iload_4 (pc := 50) C dX4_hold_50 ?_
          refine gl_iconst (pc := 52) (nI 2) C dX4_hold_52 (by decide) ?_
          refine gl_icmp_eq (pc := 53) 62 C dX4_hold_53 (by decide) (fun h53 => ?_) (fun h53 => ?_)
          · skip
            refine gl_bipush (pc := 62) (-2) C dX4_hold_62 (by decide +kernel) ?_
            exact gl_iret (pc := 64) C dX4_hold_64 (by rw [pa_hold, if_pos hok, hcN, if_pos]; first | exact Or.inl h53 | exact Or.inr h59) ((if_neg (fun q => q.2 (by rw [hcN]; first | exact Or.inl h53 | exact Or.inr h59))).symm)
          · skip
            refine gl_iload_4 (pc := 56) C dX4_hold_56 ?_
            refine gl_iload_3 (pc := 58) C dX4_hold_58 ?_
            refine gl_icmp_ne (pc := 59) 65 C dX4_hold_59 (by decide) (fun h59 => ?_) (fun h59 => ?_)
            · skip
              have hQ : ¬ (S (iC c 4) = nI 2 ∨ S (iC c 4) = _) := fun q => q.elim h53 h59
              refine gl_aload_0 (pc := 65) C dX4_hold_65 ?_
              refine gl_getR (pc := 66) C dX4_hold_66 fX4_hold_22 rfl rfl ?_
              refine gl_aload_0 (pc := 69) C dX4_hold_69 ?_
              refine gl_getR (pc := 70) C dX4_hold_70 fX4_hold_10 rfl rfl ?_
              refine gl_callVv (pc := 73) (ctX2_keep V.1 G hp5 hp hq5 hq) C dX4_hold_73 gX4_hold_X2_keep rfl hdX2_keep ⟨rfl, rfl, Nat.le_of_ble_eq_true rfl, Nat.le_of_ble_eq_true rfl⟩ rfl (Nat.le_of_ble_eq_true rfl) rfl rfl rfl ?_
              refine gl_aload_0 (pc := 76) C dX4_hold_76 ?_
              refine gl_getR (pc := 77) C dX4_hold_77 fX4_hold_10 rfl rfl ?_
              refine gl_getR (pc := 80) C dX4_hold_80 fX4_hold_30 rfl rfl ?_
              refine gl_getR (pc := 83) C dX4_hold_83 fX4_hold_55 rfl rfl ?_
              refine gl_iload_1 (pc := 86) C dX4_hold_86 ?_
              refine gl_iload_3 (pc := 87) C dX4_hold_87 ?_
              refine gl_iast (pc := 88) _ C dX4_hold_88 rfl rfl (by omega) ?_
              refine gl_mem (sp_blk_upd hk (by unfold iC; omega) _) ?_
              refine gl_aload_0 (pc := 89) C dX4_hold_89 ?_
              refine gl_getR (pc := 90) C dX4_hold_90 fX4_hold_10 rfl rfl ?_
              refine gl_getR (pc := 93) C dX4_hold_93 fX4_hold_58 rfl rfl ?_
              refine gl_iload_1 (pc := 96) C dX4_hold_96 ?_
              refine gl_callVi (pc := 97) (gl_up1r 0 (by omega) sp_blk_ag (ctX0_numberWith (gl_sh V.1 (gl_eH 0)) hn40 (sp_W_st w hc _).2.2.1 (nI c))) C dX4_hold_97 gX4_hold_X0_numberWith rfl hdX0_numberWith ⟨rfl, rfl, Nat.le_of_ble_eq_true rfl, Nat.le_of_ble_eq_true rfl⟩ rfl (Nat.le_of_ble_eq_true rfl) rfl rfl rfl ?_
              exact gl_iret (pc := 100) C dX4_hold_100 (by rw [pa_hold, if_pos hok, hcN, if_neg hQ]) (by rw [if_pos ⟨hok, by rw [hcN]; exact hQ⟩, hcN])
            · skip
              have hQ : S (iC c 4) = nI 2 ∨ S (iC c 4) = _ := Or.inr h59
              refine gl_bipush (pc := 62) (-2) C dX4_hold_62 (by decide +kernel) ?_
              exact gl_iret (pc := 64) C dX4_hold_64 (by rw [pa_hold, if_pos hok, hcN, if_pos]; first | exact Or.inl h53 | exact Or.inr h59) ((if_neg (fun q => q.2 (by rw [hcN]; first | exact Or.inl h53 | exact Or.inr h59))).symm)
      · skip
        have hno : ¬ (sp_has x (nI m) ∧ sp_inr y (nI 0) (nI 1)) := fun q => h20 ((sp_in0 y 1).mpr q.2).2
        refine gl_iconst (pc := 23) (-1) C dX4_hold_23 (by decide) ?_
        exact gl_iret (pc := 24) C dX4_hold_24 (by rw [pa_hold, if_neg hno]) ((if_neg (fun q => hno q.1)).symm)
set_option maxRecDepth 100000 in
set_option maxHeartbeats 4000000 in
theorem ctX4_fail (F : gl_F) {n m t : Nat} {G S : Nat → Int32} (w : sp_W n m t S) (ht31 : t < 2000000) (hS : sp_ag G 0 S) {p q : Nat} (hp5 : p ≤ 5) (hp : G 2646 = nI p) (hq5 : q < 5) (hq : G 2647 = nI q) (x : Int32) : gl_Ct F LC yX4_fail wsX4_fail rmX4_fail [.ref (gl_r F 126), .int x] G (some (.int (pa_fail S n m t x))) (if ok_fail S m x then sp_blk (sp_keepC G p q) 0 (sp_fail S (cN x) t n) else G) := by
  refine gl_met (cc := cX4_fail) (maxL := 2) (ret := some .int) [some (.ref (gl_r F 126)), some (.int x)] (plainFor_of_name (by decide)) rfl ok_LC (by simp [Value.category]) (Nat.le_of_ble_eq_true rfl) rfl (fun V hV C => ?_)
  subst hV
  obtain ⟨hn40, hm5, hn, hm, ht, hcar, hcal⟩ := id w
  have h0 := sp_ag_0 hS
  have hk := sp_keepC_0 (p := p) hq5 hS
  have h0k := sp_ag_0 hk
  refine gl_aload_0 (pc := 0) C dX4_fail_0 ?_
  refine gl_getR (pc := 1) C dX4_fail_1 fX4_fail_10 rfl rfl ?_
  refine gl_getR (pc := 4) C dX4_fail_4 fX4_fail_30 rfl rfl ?_
  refine gl_iload_1 (pc := 7) C dX4_fail_7 ?_
  refine gl_callVi (pc := 8) (gl_up1r 0 (by omega) hS (ctX1_has (gl_sh V.1 (gl_eH 0)) S x)) C dX4_fail_8 gX4_fail_X1_has rfl hdX1_has ⟨rfl, rfl, Nat.le_of_ble_eq_true rfl, Nat.le_of_ble_eq_true rfl⟩ rfl (Nat.le_of_ble_eq_true rfl) rfl rfl rfl ?_
  refine gl_ifne (pc := 11) 16 C dX4_fail_11 (by decide) (fun h11 => ?_) (fun h11 => ?_)
  · skip
    replace h11 := gl_bn.mp h11
    rw [hm] at h11
    have hok0 := h11
    obtain ⟨c, hc, rfl⟩ := sp_has_n (by omega) hok0
    have hcN : cN (nI c) = c := nI_clamp (by omega)
    have hc5 : c < 5 := by omega
    refine gl_aload_0 (pc := 16) C dX4_fail_16 ?_
    refine gl_getR (pc := 17) C dX4_fail_17 fX4_fail_10 rfl rfl ?_
    refine gl_getR (pc := 20) C dX4_fail_20 fX4_fail_30 rfl rfl ?_
    refine gl_getR (pc := 23) C dX4_fail_23 fX4_fail_55 rfl rfl ?_
    refine gl_iload_1 (pc := 26) C dX4_fail_26 ?_
    refine gl_iald (pc := 27) _ C dX4_fail_27 rfl rfl (by omega) ?_
    refine gl_top (h0 (iC c 4) (by first | (unfold iC; omega) | (unfold iK; omega) | omega)) ?_
    refine gl_iconst (pc := 28) (nI 2) C dX4_fail_28 (by decide) ?_
    refine gl_icmp_ne (pc := 29) 35 C dX4_fail_29 (by decide) (fun h29 => ?_) (fun h29 => ?_)
    · skip
      refine gl_aload_0 (pc := 35) C dX4_fail_35 ?_
      refine gl_getR (pc := 36) C dX4_fail_36 fX4_fail_22 rfl rfl ?_
      refine gl_aload_0 (pc := 39) C dX4_fail_39 ?_
      refine gl_getR (pc := 40) C dX4_fail_40 fX4_fail_10 rfl rfl ?_
      refine gl_callVv (pc := 43) (ctX2_keep V.1 G hp5 hp hq5 hq) C dX4_fail_43 gX4_fail_X2_keep rfl hdX2_keep ⟨rfl, rfl, Nat.le_of_ble_eq_true rfl, Nat.le_of_ble_eq_true rfl⟩ rfl (Nat.le_of_ble_eq_true rfl) rfl rfl rfl ?_
      refine gl_aload_0 (pc := 46) C dX4_fail_46 ?_
      refine gl_getR (pc := 47) C dX4_fail_47 fX4_fail_10 rfl rfl ?_
      refine gl_iload_1 (pc := 50) C dX4_fail_50 ?_
      refine gl_callVv (pc := 51) (gl_up1 0 (by omega) hk (ctX3_breakCar (gl_sh V.1 (gl_eH 0)) w c hc)) C dX4_fail_51 gX4_fail_X3_breakCar rfl hdX3_breakCar ⟨rfl, rfl, Nat.le_of_ble_eq_true rfl, Nat.le_of_ble_eq_true rfl⟩ rfl (Nat.le_of_ble_eq_true rfl) rfl rfl rfl ?_
      refine gl_aload_0 (pc := 54) C dX4_fail_54 ?_
      refine gl_getR (pc := 55) C dX4_fail_55 fX4_fail_10 rfl rfl ?_
      refine gl_getR (pc := 58) C dX4_fail_58 fX4_fail_58 rfl rfl ?_
      refine gl_iconst (pc := 61) (nI 0) C dX4_fail_61 (by decide) ?_
      refine gl_callVi (pc := 62) (gl_up1r 0 (by omega) sp_blk_ag (ctX0_numberIn (gl_sh V.1 (gl_eH 0)) hn40 (sp_fail_W w hc).2.2.1 (nI 0))) C dX4_fail_62 gX4_fail_X0_numberIn rfl hdX0_numberIn ⟨rfl, rfl, Nat.le_of_ble_eq_true rfl, Nat.le_of_ble_eq_true rfl⟩ rfl (Nat.le_of_ble_eq_true rfl) rfl rfl rfl ?_
      exact gl_iret (pc := 65) C dX4_fail_65 (by rw [pa_fail, if_pos hok0, hcN, if_neg h29]) (by rw [if_pos ⟨hok0, by rw [hcN]; exact h29⟩, hcN])
    · skip
      refine gl_bipush (pc := 32) (-2) C dX4_fail_32 (by decide +kernel) ?_
      exact gl_iret (pc := 34) C dX4_fail_34 (by rw [pa_fail, if_pos hok0, hcN, if_pos h29]) ((if_neg (fun q => q.2 (by rw [hcN]; exact h29))).symm)
  · skip
    replace h11 := gl_bz.mp h11
    rw [hm] at h11
    refine gl_iconst (pc := 14) (-1) C dX4_fail_14 (by decide) ?_
    exact gl_iret (pc := 15) C dX4_fail_15 (by rw [pa_fail, if_neg h11]) ((if_neg (fun q => h11 q.1)).symm)
set_option maxRecDepth 100000 in
set_option maxHeartbeats 4000000 in
theorem ctX4_repair (F : gl_F) {n m t : Nat} {G S : Nat → Int32} (w : sp_W n m t S) (ht31 : t < 2000000) (hS : sp_ag G 0 S) {p q : Nat} (hp5 : p ≤ 5) (hp : G 2646 = nI p) (hq5 : q < 5) (hq : G 2647 = nI q) (x : Int32) : gl_Ct F LC yX4_repair wsX4_repair rmX4_repair [.ref (gl_r F 126), .int x] G (some (.int (pa_repair S m x))) (if ok_repair S m x then sp_blk (sp_keepC G p q) 0 (upd S (iC (cN x) 4) (nI 0)) else G) := by
  refine gl_met (cc := cX4_repair) (maxL := 2) (ret := some .int) [some (.ref (gl_r F 126)), some (.int x)] (plainFor_of_name (by decide)) rfl ok_LC (by simp [Value.category]) (Nat.le_of_ble_eq_true rfl) rfl (fun V hV C => ?_)
  subst hV
  obtain ⟨hn40, hm5, hn, hm, ht, hcar, hcal⟩ := id w
  have h0 := sp_ag_0 hS
  have hk := sp_keepC_0 (p := p) hq5 hS
  have h0k := sp_ag_0 hk
  refine gl_aload_0 (pc := 0) C dX4_repair_0 ?_
  refine gl_getR (pc := 1) C dX4_repair_1 fX4_repair_10 rfl rfl ?_
  refine gl_getR (pc := 4) C dX4_repair_4 fX4_repair_30 rfl rfl ?_
  refine gl_iload_1 (pc := 7) C dX4_repair_7 ?_
  refine gl_callVi (pc := 8) (gl_up1r 0 (by omega) hS (ctX1_has (gl_sh V.1 (gl_eH 0)) S x)) C dX4_repair_8 gX4_repair_X1_has rfl hdX1_has ⟨rfl, rfl, Nat.le_of_ble_eq_true rfl, Nat.le_of_ble_eq_true rfl⟩ rfl (Nat.le_of_ble_eq_true rfl) rfl rfl rfl ?_
  refine gl_ifne (pc := 11) 16 C dX4_repair_11 (by decide) (fun h11 => ?_) (fun h11 => ?_)
  · skip
    replace h11 := gl_bn.mp h11
    rw [hm] at h11
    have hok0 := h11
    obtain ⟨c, hc, rfl⟩ := sp_has_n (by omega) hok0
    have hcN : cN (nI c) = c := nI_clamp (by omega)
    have hc5 : c < 5 := by omega
    refine gl_aload_0 (pc := 16) C dX4_repair_16 ?_
    refine gl_getR (pc := 17) C dX4_repair_17 fX4_repair_10 rfl rfl ?_
    refine gl_getR (pc := 20) C dX4_repair_20 fX4_repair_30 rfl rfl ?_
    refine gl_getR (pc := 23) C dX4_repair_23 fX4_repair_55 rfl rfl ?_
    refine gl_iload_1 (pc := 26) C dX4_repair_26 ?_
    refine gl_iald (pc := 27) _ C dX4_repair_27 rfl rfl (by omega) ?_
    refine gl_top (h0 (iC c 4) (by first | (unfold iC; omega) | (unfold iK; omega) | omega)) ?_
    refine gl_iconst (pc := 28) (nI 2) C dX4_repair_28 (by decide) ?_
    refine gl_icmp_eq (pc := 29) 35 C dX4_repair_29 (by decide) (fun h29 => ?_) (fun h29 => ?_)
    · skip
      refine gl_aload_0 (pc := 35) C dX4_repair_35 ?_
      refine gl_getR (pc := 36) C dX4_repair_36 fX4_repair_22 rfl rfl ?_
      refine gl_aload_0 (pc := 39) C dX4_repair_39 ?_
      refine gl_getR (pc := 40) C dX4_repair_40 fX4_repair_10 rfl rfl ?_
      refine gl_callVv (pc := 43) (ctX2_keep V.1 G hp5 hp hq5 hq) C dX4_repair_43 gX4_repair_X2_keep rfl hdX2_keep ⟨rfl, rfl, Nat.le_of_ble_eq_true rfl, Nat.le_of_ble_eq_true rfl⟩ rfl (Nat.le_of_ble_eq_true rfl) rfl rfl rfl ?_
      refine gl_aload_0 (pc := 46) C dX4_repair_46 ?_
      refine gl_getR (pc := 47) C dX4_repair_47 fX4_repair_10 rfl rfl ?_
      refine gl_getR (pc := 50) C dX4_repair_50 fX4_repair_30 rfl rfl ?_
      refine gl_getR (pc := 53) C dX4_repair_53 fX4_repair_55 rfl rfl ?_
      refine gl_iload_1 (pc := 56) C dX4_repair_56 ?_
      refine gl_iconst (pc := 57) (nI 0) C dX4_repair_57 (by decide) ?_
      refine gl_iast (pc := 58) _ C dX4_repair_58 rfl rfl (by omega) ?_
      refine gl_aload_0 (pc := 59) C dX4_repair_59 ?_
      refine gl_getR (pc := 60) C dX4_repair_60 fX4_repair_10 rfl rfl ?_
      refine gl_getR (pc := 63) C dX4_repair_63 fX4_repair_30 rfl rfl ?_
      refine gl_getR (pc := 66) C dX4_repair_66 fX4_repair_75 rfl rfl ?_
      refine gl_iload_1 (pc := 69) C dX4_repair_69 ?_
      refine gl_iald (pc := 70) _ C dX4_repair_70 rfl rfl (by omega) ?_
      refine gl_top ((rC (by omega) (by omega) (by omega)).trans (h0k (iC c 3) (by unfold iC; omega))) ?_
      exact gl_iret (pc := 71) C dX4_repair_71 (by rw [pa_repair, if_pos hok0, hcN, if_pos h29]) (by rw [if_pos ⟨hok0, by rw [hcN]; exact h29⟩, hcN]; exact sp_blk_upd hk (by unfold iC; omega) _)
    · skip
      refine gl_bipush (pc := 32) (-2) C dX4_repair_32 (by decide +kernel) ?_
      exact gl_iret (pc := 34) C dX4_repair_34 (by rw [pa_repair, if_pos hok0, hcN, if_neg h29]) ((if_neg (fun q => h29 (by rw [← hcN]; exact q.2))).symm)
  · skip
    replace h11 := gl_bz.mp h11
    rw [hm] at h11
    refine gl_iconst (pc := 14) (-1) C dX4_repair_14 (by decide) ?_
    exact gl_iret (pc := 15) C dX4_repair_15 (by rw [pa_repair, if_neg h11]) ((if_neg (fun q => h11 q.1)).symm)
set_option maxRecDepth 100000 in
set_option maxHeartbeats 4000000 in
theorem ctX4_call (F : gl_F) {n m t : Nat} {G S : Nat → Int32} (w : sp_W n m t S) (ht31 : t < 2000000) (hS : sp_ag G 0 S) {p q : Nat} (hp5 : p ≤ 5) (hp : G 2646 = nI p) (hq5 : q < 5) (hq : G 2647 = nI q) (f g : Int32) : gl_Ct F LC yX4_call wsX4_call rmX4_call [.ref (gl_r F 126), .int f, .int g] G (some (.int (pa_call n f g))) (if sp_way f g ∧ ¬ n = 40 then sp_blk (sp_keepC G p q) 0 (sp_call S n m t f g) else G) := by
  refine gl_met (cc := cX4_call) (maxL := 5) (ret := some .int) [some (.ref (gl_r F 126)), some (.int f), some (.int g), none, none] (plainFor_of_name (by decide)) rfl ok_LC (by simp [Value.category]) (Nat.le_of_ble_eq_true rfl) rfl (fun V hV C => ?_)
  subst hV
  obtain ⟨hn40, hm5, hn, hm, ht, hcar, hcal⟩ := id w
  have h0 := sp_ag_0 hS
  have hk := sp_keepC_0 (p := p) hq5 hS
  have h0k := sp_ag_0 hk
  refine gl_iload_1 (pc := 0) C dX4_call_0 ?_
  refine gl_iload_2 (pc := 1) C dX4_call_1 ?_
  refine gl_callSi (pc := 2) (ctX4_isWay V.1 G f g) C dX4_call_2 gX4_call_X4_isWay rfl hdX4_isWay ⟨rfl, rfl, Nat.le_of_ble_eq_true rfl, Nat.le_of_ble_eq_true rfl⟩ rfl (Nat.le_of_ble_eq_true rfl) rfl ?_
  refine gl_ifne (pc := 5) 10 C dX4_call_5 (by decide) (fun h5 => ?_) (fun h5 => ?_)
  · skip
    replace h5 := gl_bn.mp h5
    have hf := sp_isf_fl h5.1
    have hg := sp_isf_fl h5.2.1
    refine gl_aload_0 (pc := 10) C dX4_call_10 ?_
    refine gl_getR (pc := 11) C dX4_call_11 fX4_call_10 rfl rfl ?_
    refine gl_getR (pc := 14) C dX4_call_14 fX4_call_58 rfl rfl ?_
    refine gl_getI (pc := 17) C dX4_call_17 fX4_call_82 rfl rfl ?_
    refine gl_top ((h0 2 (by omega)).trans hn) ?_
    refine gl_bipush (pc := 20) (nI 40) C dX4_call_20 (by decide +kernel) ?_
    refine gl_icmp_lt (pc := 22) 28 C dX4_call_22 (by decide) (fun h22 => ?_) (fun h22 => ?_)
    · skip
      rw [nI_ltI (by omega) (by omega)] at h22
      have hQ : ¬ n = 40 := by omega
      have wK := sp_addK_W w h22 hf hg (tk := nI t)
      refine gl_aload_0 (pc := 28) C dX4_call_28 ?_
      refine gl_getR (pc := 29) C dX4_call_29 fX4_call_22 rfl rfl ?_
      refine gl_aload_0 (pc := 32) C dX4_call_32 ?_
      refine gl_getR (pc := 33) C dX4_call_33 fX4_call_10 rfl rfl ?_
      refine gl_callVv (pc := 36) (ctX2_keep V.1 G hp5 hp hq5 hq) C dX4_call_36 gX4_call_X2_keep rfl hdX2_keep ⟨rfl, rfl, Nat.le_of_ble_eq_true rfl, Nat.le_of_ble_eq_true rfl⟩ rfl (Nat.le_of_ble_eq_true rfl) rfl rfl rfl ?_
      refine gl_aload_0 (pc := 39) C dX4_call_39 ?_
      refine gl_getR (pc := 40) C dX4_call_40 fX4_call_10 rfl rfl ?_
      refine gl_iload_1 (pc := 43) C dX4_call_43 ?_
      refine gl_iload_2 (pc := 44) C dX4_call_44 ?_
      refine gl_callVi (pc := 45) (gl_up1r 0 (by omega) hk (ctX3_bestCar (gl_sh V.1 (gl_eH 0)) w (by omega) hf hg)) C dX4_call_45 gX4_call_X3_bestCar rfl hdX3_bestCar ⟨rfl, rfl, Nat.le_of_ble_eq_true rfl, Nat.le_of_ble_eq_true rfl⟩ rfl (Nat.le_of_ble_eq_true rfl) rfl rfl rfl ?_
      refine gl_istore_3 (pc := 48) C dX4_call_48 ?_
      refine gl_aload_0 (pc := 49) C dX4_call_49 ?_
      refine gl_getR (pc := 50) C dX4_call_50 fX4_call_10 rfl rfl ?_
      refine gl_getR (pc := 53) C dX4_call_53 fX4_call_58 rfl rfl ?_
      refine gl_iload_1 (pc := 56) C dX4_call_56 ?_
      refine gl_iload_2 (pc := 57) C dX4_call_57 ?_
      refine gl_aload_0 (pc := 58) C dX4_call_58 ?_
      refine gl_getR (pc := 59) C dX4_call_59 fX4_call_10 rfl rfl ?_
      refine gl_getI (pc := 62) C dX4_call_62 fX4_call_87 rfl rfl ?_
      refine gl_top ((h0k 0 (by omega)).trans ht) ?_
      refine gl_callVi (pc := 65) (gl_up1 0 (by omega) hk (ctX0_add (gl_sh V.1 (gl_eH 0)) (n := n) h22 hn f g (nI t))) C dX4_call_65 gX4_call_X0_add rfl hdX0_add ⟨rfl, rfl, Nat.le_of_ble_eq_true rfl, Nat.le_of_ble_eq_true rfl⟩ rfl (Nat.le_of_ble_eq_true rfl) rfl rfl rfl ?_
      refine gl_istore_4 (pc := 68) C dX4_call_68 ?_
      refine gl_aload_0 (pc := 70) C dX4_call_70 ?_
      refine gl_getR (pc := 71) C dX4_call_71 fX4_call_10 rfl rfl ?_
      refine gl_getR (pc := 74) C dX4_call_74 fX4_call_58 rfl rfl ?_
      refine gl_iload_4 (pc := 77) C dX4_call_77 ?_
      refine gl_iload_3 (pc := 79) C dX4_call_79 ?_
      refine gl_callVv (pc := 80) (gl_up1 0 (by omega) sp_blk_ag (ctX0_give (gl_sh V.1 (gl_eH 0)) (n := n + 1) (by omega) wK.2.2.1 n (by omega) _)) C dX4_call_80 gX4_call_X0_give rfl hdX0_give ⟨rfl, rfl, Nat.le_of_ble_eq_true rfl, Nat.le_of_ble_eq_true rfl⟩ rfl (Nat.le_of_ble_eq_true rfl) rfl rfl rfl ?_
      refine gl_mem sp_blk_blk ?_
      refine gl_iload_4 (pc := 83) C dX4_call_83 ?_
      exact gl_iret (pc := 85) C dX4_call_85 (by rw [pa_call, if_pos h5, if_neg hQ]) (by rw [if_pos ⟨h5, hQ⟩]; rfl)
    · skip
      rw [nI_ltI (by omega) (by omega)] at h22
      have hQ : n = 40 := by omega
      refine gl_bipush (pc := 25) (-3) C dX4_call_25 (by decide +kernel) ?_
      exact gl_iret (pc := 27) C dX4_call_27 (by rw [pa_call, if_pos h5, if_pos hQ]) ((if_neg (fun q => q.2 hQ)).symm)
  · skip
    replace h5 := gl_bz.mp h5
    refine gl_iconst (pc := 8) (-1) C dX4_call_8 (by decide) ?_
    exact gl_iret (pc := 9) C dX4_call_9 (by rw [pa_call, if_neg h5]) ((if_neg (fun q => h5 q.1)).symm)
set_option maxRecDepth 100000 in
set_option maxHeartbeats 4000000 in
theorem ctX4_pass (F : gl_F) {n m t : Nat} {G S : Nat → Int32} (w : sp_W n m t S) (ht31 : t < 2000000) (hS : sp_ag G 0 S) {p q : Nat} (hp5 : p ≤ 5) (hp : G 2646 = nI p) (hq5 : q < 5) (hq : G 2647 = nI q) (x : Int32) : gl_Ct F LC yX4_pass wsX4_pass rmX4_pass [.ref (gl_r F 126), .int x] G (some (.int (pa_pass S n m t x))) (if ok_pass t x then sp_blk (sp_keepC G p q) 0 (sp_run S t n m (cN x)) else G) := by
  refine gl_met (cc := cX4_pass) (maxL := 3) (ret := some .int) [some (.ref (gl_r F 126)), some (.int x), none] (plainFor_of_name (by decide)) rfl ok_LC (by simp [Value.category]) (Nat.le_of_ble_eq_true rfl) rfl (fun V hV C => ?_)
  subst hV
  obtain ⟨hn40, hm5, hn, hm, ht, hcar, hcal⟩ := id w
  have h0 := sp_ag_0 hS
  have hk := sp_keepC_0 (p := p) hq5 hS
  have h0k := sp_ag_0 hk
  refine gl_iload_1 (pc := 0) C dX4_pass_0 ?_
  refine gl_iconst (pc := 1) (nI 1) C dX4_pass_1 (by decide) ?_
  refine gl_icmp_lt (pc := 2) 12 C dX4_pass_2 (by decide) (fun h2 => ?_) (fun h2 => ?_)
  · skip
    have hno : ¬ sp_inr x (nI 1) (nI 200) := fun q => q.1 h2
    refine gl_iconst (pc := 12) (-1) C dX4_pass_12 (by decide) ?_
    exact gl_iret (pc := 13) C dX4_pass_13 (by rw [pa_pass, if_neg hno]) ((if_neg (fun q => hno q.1)).symm)
  · skip
    refine gl_iload_1 (pc := 5) C dX4_pass_5 ?_
    refine gl_sipush (pc := 6) (nI 200) C dX4_pass_6 (by decide +kernel) ?_
    refine gl_icmp_le (pc := 9) 14 C dX4_pass_9 (by decide) (fun h9 => ?_) (fun h9 => ?_)
    · skip
      have h8 := (sp_in1 x (nI 1) (nI 200)).mp ⟨h2, h9⟩
      refine gl_aload_0 (pc := 14) C dX4_pass_14 ?_
      refine gl_getR (pc := 15) C dX4_pass_15 fX4_pass_10 rfl rfl ?_
      refine gl_getI (pc := 18) C dX4_pass_18 fX4_pass_87 rfl rfl ?_
      refine gl_top ((h0 0 (by omega)).trans ht) ?_
      refine gl_iload_1 (pc := 21) C dX4_pass_21 ?_
      first | with_reducible refine gl_iaddN (pc := 22) C dX4_pass_22 ?_ | refine gl_iadd (pc := 22) C dX4_pass_22 ?_
      refine gl_sipush (pc := 23) (nI 20000) C dX4_pass_23 (by decide +kernel) ?_
      refine gl_icmp_le (pc := 26) 32 C dX4_pass_26 (by decide) (fun h26 => ?_) (fun h26 => ?_)
      · skip
        replace h26 := Int32.not_lt.mpr h26
        have hok := h8
        obtain ⟨j, -, hj, rfl⟩ := sp_inr_n (by omega) (by omega) h8
        have hcN : cN (nI j) = j := nI_clamp (by omega)
        refine gl_aload_0 (pc := 32) C dX4_pass_32 ?_
        refine gl_getR (pc := 33) C dX4_pass_33 fX4_pass_22 rfl rfl ?_
        refine gl_aload_0 (pc := 36) C dX4_pass_36 ?_
        refine gl_getR (pc := 37) C dX4_pass_37 fX4_pass_10 rfl rfl ?_
        refine gl_callVv (pc := 40) (ctX2_keep V.1 G hp5 hp hq5 hq) C dX4_pass_40 gX4_pass_X2_keep rfl hdX2_keep ⟨rfl, rfl, Nat.le_of_ble_eq_true rfl, Nat.le_of_ble_eq_true rfl⟩ rfl (Nat.le_of_ble_eq_true rfl) rfl rfl rfl ?_
        refine gl_iconst (pc := 43) (nI 0) C dX4_pass_43 (by decide) ?_
        refine gl_istore_2 (pc := 44) C dX4_pass_44 ?_
        refine gl_loop (pc := 45) (n := j) (fun k => [some (.ref (gl_r V.1 126)), some (.int (nI j)), some (.int (nI k))]) (fun k => (sp_blk (sp_keepC G p q) 0 (sp_run S t n m k))) (fun k => True) 0 (Nat.zero_le _) (trivial) (gl_le_c (rfl) (gl_le_c (rfl) (gl_le_c (rfl) (gl_le_n)))) (sp_blk_self hk) (fun hI => ?_) (fun k hk hI ih => ?_)
        · skip
          refine gl_iload_2 (pc := 45) C dX4_pass_45 ?_
          refine gl_iload_1 (pc := 46) C dX4_pass_46 ?_
          refine gl_icmp_ge (pc := 47) 63 C dX4_pass_47 (by decide) (fun h47 => ?_) (fun h47 => absurd h47 (gl_xge))
          refine gl_aload_0 (pc := 63) C dX4_pass_63 ?_
          refine gl_getR (pc := 64) C dX4_pass_64 fX4_pass_10 rfl rfl ?_
          refine gl_getR (pc := 67) C dX4_pass_67 fX4_pass_58 rfl rfl ?_
          refine gl_iconst (pc := 70) (nI 3) C dX4_pass_70 (by decide) ?_
          refine gl_callVi (pc := 71) (gl_up1r 0 (by omega) sp_blk_ag (ctX0_numberIn (gl_sh V.1 (gl_eH 0)) hn40 (sp_run_W w j).2.2.1 (nI 3))) C dX4_pass_71 gX4_pass_X0_numberIn rfl hdX0_numberIn ⟨rfl, rfl, Nat.le_of_ble_eq_true rfl, Nat.le_of_ble_eq_true rfl⟩ rfl (Nat.le_of_ble_eq_true rfl) rfl rfl rfl ?_
          exact gl_iret (pc := 74) C dX4_pass_74 (by rw [pa_pass, if_pos hok, if_neg h26, hcN]) (by rw [if_pos ⟨hok, h26⟩, hcN])
        · skip
          refine gl_iload_2 (pc := 45) C dX4_pass_45 ?_
          refine gl_iload_1 (pc := 46) C dX4_pass_46 ?_
          refine gl_icmp_ge (pc := 47) 63 C dX4_pass_47 (by decide) (fun h47 => absurd h47 (nI_ge hk (by omega))) (fun h47 => ?_)
          refine gl_aload_0 (pc := 50) C dX4_pass_50 ?_
          refine gl_getR (pc := 51) C dX4_pass_51 fX4_pass_10 rfl rfl ?_
          refine gl_callVv (pc := 54) (gl_up1 0 (by omega) sp_blk_ag (ctX3_oneTick (gl_sh V.1 (gl_eH 0)) (sp_run_W w k) (by omega))) C dX4_pass_54 gX4_pass_X3_oneTick rfl hdX3_oneTick ⟨rfl, rfl, Nat.le_of_ble_eq_true rfl, Nat.le_of_ble_eq_true rfl⟩ rfl (Nat.le_of_ble_eq_true rfl) rfl rfl rfl ?_
          first | with_reducible refine gl_iincN_2 (pc := 57) gl_i1 C dX4_pass_57 ?_ | refine gl_iinc_2 (pc := 57) C dX4_pass_57 (gl_inc1 _) ?_
          refine gl_goto (pc := 60) 45 C dX4_pass_60 (by decide) ?_
          exact gl_on (ih (trivial)) (gl_le_c (rfl) (gl_le_c (rfl) (gl_le_c (rfl) (gl_le_n)))) (sp_blk_blk)
      · skip
        replace h26 := Int32.not_le.mp h26
        refine gl_bipush (pc := 29) (-2) C dX4_pass_29 (by decide +kernel) ?_
        exact gl_iret (pc := 31) C dX4_pass_31 (by rw [pa_pass, if_pos h8, if_pos h26]) ((if_neg (fun q => q.2 h26)).symm)
    · skip
      have hno : ¬ sp_inr x (nI 1) (nI 200) := fun q => h9 ((sp_in1 x (nI 1) (nI 200)).mpr q).2
      refine gl_iconst (pc := 12) (-1) C dX4_pass_12 (by decide) ?_
      exact gl_iret (pc := 13) C dX4_pass_13 (by rw [pa_pass, if_neg hno]) ((if_neg (fun q => hno q.1)).symm)
