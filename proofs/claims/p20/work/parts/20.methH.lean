theorem fX1_copyFrom_9 : gl_fl wsX1_copyFrom RX1 9 1 2 := ⟨RX1, TX1, 8, RX1, rfl, by decide, by decide +kernel, by decide +kernel, rfl⟩
theorem fX1_copyFrom_15 : gl_fl wsX1_copyFrom RX1 15 1 3 := ⟨RX1, TX1, 8, RX1, rfl, by decide, by decide +kernel, by decide +kernel, rfl⟩
theorem fX1_copyFrom_18 : gl_fl wsX1_copyFrom RX1 18 1 4 := ⟨RX1, TX1, 8, RX1, rfl, by decide, by decide +kernel, by decide +kernel, rfl⟩
theorem fX1_copyFrom_21 : gl_fl wsX1_copyFrom RX1 21 1 5 := ⟨RX1, TX1, 8, RX1, rfl, by decide, by decide +kernel, by decide +kernel, rfl⟩
theorem fX1_copyFrom_24 : gl_fl wsX1_copyFrom RX1 24 1 6 := ⟨RX1, TX1, 8, RX1, rfl, by decide, by decide +kernel, by decide +kernel, rfl⟩
theorem fX1_copyFrom_27 : gl_fl wsX1_copyFrom RX1 27 1 7 := ⟨RX1, TX1, 8, RX1, rfl, by decide, by decide +kernel, by decide +kernel, rfl⟩
theorem fX1_copyFrom_30 : gl_fl wsX1_copyFrom RX1 30 1 0 := ⟨RX1, TX1, 8, RX1, rfl, by decide, by decide +kernel, by decide +kernel, rfl⟩
theorem pX1_copyFrom_30 : gl_fp wsX1_copyFrom RX1 30 1 0 := ⟨RX1, TX1, 8, RX1, tyX1, rfl, by decide, by decide +kernel, by decide +kernel, rfl, tyX1_ok, nmX1, rfl, rfl⟩
theorem fX1_copyFrom_34 : gl_fl wsX1_copyFrom RX1 34 1 1 := ⟨RX1, TX1, 8, RX1, rfl, by decide, by decide +kernel, by decide +kernel, rfl⟩
theorem pX1_copyFrom_34 : gl_fp wsX1_copyFrom RX1 34 1 1 := ⟨RX1, TX1, 8, RX1, tyX1, rfl, by decide, by decide +kernel, by decide +kernel, rfl, tyX1_ok, nmX1, rfl, rfl⟩
theorem fX0_copyFrom_9 : gl_fl wsX0_copyFrom RX0 9 0 1 := ⟨RX0, TX0, 9, RX0, rfl, by decide, by decide +kernel, by decide +kernel, rfl⟩
theorem fX0_copyFrom_15 : gl_fl wsX0_copyFrom RX0 15 0 2 := ⟨RX0, TX0, 9, RX0, rfl, by decide, by decide +kernel, by decide +kernel, rfl⟩
theorem fX0_copyFrom_18 : gl_fl wsX0_copyFrom RX0 18 0 3 := ⟨RX0, TX0, 9, RX0, rfl, by decide, by decide +kernel, by decide +kernel, rfl⟩
theorem fX0_copyFrom_21 : gl_fl wsX0_copyFrom RX0 21 0 4 := ⟨RX0, TX0, 9, RX0, rfl, by decide, by decide +kernel, by decide +kernel, rfl⟩
theorem fX0_copyFrom_24 : gl_fl wsX0_copyFrom RX0 24 0 5 := ⟨RX0, TX0, 9, RX0, rfl, by decide, by decide +kernel, by decide +kernel, rfl⟩
theorem fX0_copyFrom_27 : gl_fl wsX0_copyFrom RX0 27 0 6 := ⟨RX0, TX0, 9, RX0, rfl, by decide, by decide +kernel, by decide +kernel, rfl⟩
theorem fX0_copyFrom_30 : gl_fl wsX0_copyFrom RX0 30 0 7 := ⟨RX0, TX0, 9, RX0, rfl, by decide, by decide +kernel, by decide +kernel, rfl⟩
theorem fX0_copyFrom_33 : gl_fl wsX0_copyFrom RX0 33 0 8 := ⟨RX0, TX0, 9, RX0, rfl, by decide, by decide +kernel, by decide +kernel, rfl⟩
theorem fX0_copyFrom_36 : gl_fl wsX0_copyFrom RX0 36 0 0 := ⟨RX0, TX0, 9, RX0, rfl, by decide, by decide +kernel, by decide +kernel, rfl⟩
theorem pX0_copyFrom_36 : gl_fp wsX0_copyFrom RX0 36 0 0 := ⟨RX0, TX0, 9, RX0, tyX0, rfl, by decide, by decide +kernel, by decide +kernel, rfl, tyX0_ok, nmX0, rfl, rfl⟩
theorem fX3_copyFrom_9 : gl_fl wsX3_copyFrom RX3 9 3 1 := ⟨RX3, TX3, 4, RX3, rfl, by decide, by decide +kernel, by decide +kernel, rfl⟩
theorem fX3_copyFrom_18 : gl_fl wsX3_copyFrom RX3 18 3 2 := ⟨RX3, TX3, 4, RX3, rfl, by decide, by decide +kernel, by decide +kernel, rfl⟩
theorem fX3_copyFrom_25 : gl_fl wsX3_copyFrom RX3 25 3 3 := ⟨RX3, TX3, 4, RX3, rfl, by decide, by decide +kernel, by decide +kernel, rfl⟩
theorem fX3_copyFrom_29 : gl_fl wsX3_copyFrom RX3 29 3 0 := ⟨RX3, TX3, 4, RX3, rfl, by decide, by decide +kernel, by decide +kernel, rfl⟩
theorem pX3_copyFrom_29 : gl_fp wsX3_copyFrom RX3 29 3 0 := ⟨RX3, TX3, 4, RX3, tyX3, rfl, by decide, by decide +kernel, by decide +kernel, rfl, tyX3_ok, nmX3, rfl, rfl⟩
set_option maxRecDepth 100000 in
set_option maxHeartbeats 4000000 in
theorem ctX1_copyFrom (F : gl_F) (M : Nat → Int32) : gl_Ct F L2 yX1_copyFrom wsX1_copyFrom rmX1_copyFrom [.ref (gl_r F 2), .ref (gl_r F 20)] M (none) (sp_rk rkC M 8) := by
  refine gl_met (cc := cX1_copyFrom) (maxL := 2) (ret := none) [some (.ref (gl_r F 2)), some (.ref (gl_r F 20))] (plainFor_of_name (by decide)) rfl ok_L2 (by simp [Value.category]) (Nat.le_of_ble_eq_true rfl) rfl (fun V hV C => ?_)
  subst hV
  refine gl_mem (sp_rk_0 (rk := rkC)).symm ?_
  refine gl_aload_0 (pc := 0) C dX1_copyFrom_0 ?_
  refine gl_aload_1 (pc := 1) C dX1_copyFrom_1 ?_
  refine gl_getI (pc := 2) C dX1_copyFrom_2 fX1_copyFrom_30 rfl rfl ?_
  refine gl_put (pc := 5) C dX1_copyFrom_5 pX1_copyFrom_30 rfl rfl ?_
  refine gl_mem (sp_rk_f rkC_0 (rkC_x _ _ (by omega))) ?_
  refine gl_aload_0 (pc := 8) C dX1_copyFrom_8 ?_
  refine gl_aload_1 (pc := 9) C dX1_copyFrom_9 ?_
  refine gl_getI (pc := 10) C dX1_copyFrom_10 fX1_copyFrom_34 rfl rfl ?_
  refine gl_put (pc := 13) C dX1_copyFrom_13 pX1_copyFrom_34 rfl rfl ?_
  refine gl_mem (sp_rk_f rkC_1 (rkC_x _ _ (by omega))) ?_
  refine gl_aload_1 (pc := 16) C dX1_copyFrom_16 ?_
  refine gl_getR (pc := 17) C dX1_copyFrom_17 fX1_copyFrom_9 rfl rfl ?_
  refine gl_iconst (pc := 20) (nI 0) C dX1_copyFrom_20 (by decide) ?_
  refine gl_aload_0 (pc := 21) C dX1_copyFrom_21 ?_
  refine gl_getR (pc := 22) C dX1_copyFrom_22 fX1_copyFrom_9 rfl rfl ?_
  refine gl_iconst (pc := 25) (nI 0) C dX1_copyFrom_25 (by decide) ?_
  refine gl_iconst (pc := 26) (nI 5) C dX1_copyFrom_26 (by decide) ?_
  refine gl_copy (pc := 27) C dX1_copyFrom_27 (by decide +kernel) (by decide +kernel) (by decide +kernel) (by decide +kernel) ⟨Nat.le_of_ble_eq_true rfl, by decide +kernel⟩ rfl rfl (sp_rk rkC M 3) (fun k hk => sp_rk_1 (rkC_b (w := 0) hk (by omega)) (rkC_x _ _ (by omega)) rfl) (sp_rk_2 (rkC_a (w := 0) (by omega))) ?_
  refine gl_aload_1 (pc := 30) C dX1_copyFrom_30 ?_
  refine gl_getR (pc := 31) C dX1_copyFrom_31 fX1_copyFrom_15 rfl rfl ?_
  refine gl_iconst (pc := 34) (nI 0) C dX1_copyFrom_34 (by decide) ?_
  refine gl_aload_0 (pc := 35) C dX1_copyFrom_35 ?_
  refine gl_getR (pc := 36) C dX1_copyFrom_36 fX1_copyFrom_15 rfl rfl ?_
  refine gl_iconst (pc := 39) (nI 0) C dX1_copyFrom_39 (by decide) ?_
  refine gl_iconst (pc := 40) (nI 5) C dX1_copyFrom_40 (by decide) ?_
  refine gl_copy (pc := 41) C dX1_copyFrom_41 (by decide +kernel) (by decide +kernel) (by decide +kernel) (by decide +kernel) ⟨Nat.le_of_ble_eq_true rfl, by decide +kernel⟩ rfl rfl (sp_rk rkC M 4) (fun k hk => sp_rk_1 (rkC_b (w := 1) hk (by omega)) (rkC_x _ _ (by omega)) rfl) (sp_rk_2 (rkC_a (w := 1) (by omega))) ?_
  refine gl_aload_1 (pc := 44) C dX1_copyFrom_44 ?_
  refine gl_getR (pc := 45) C dX1_copyFrom_45 fX1_copyFrom_18 rfl rfl ?_
  refine gl_iconst (pc := 48) (nI 0) C dX1_copyFrom_48 (by decide) ?_
  refine gl_aload_0 (pc := 49) C dX1_copyFrom_49 ?_
  refine gl_getR (pc := 50) C dX1_copyFrom_50 fX1_copyFrom_18 rfl rfl ?_
  refine gl_iconst (pc := 53) (nI 0) C dX1_copyFrom_53 (by decide) ?_
  refine gl_iconst (pc := 54) (nI 5) C dX1_copyFrom_54 (by decide) ?_
  refine gl_copy (pc := 55) C dX1_copyFrom_55 (by decide +kernel) (by decide +kernel) (by decide +kernel) (by decide +kernel) ⟨Nat.le_of_ble_eq_true rfl, by decide +kernel⟩ rfl rfl (sp_rk rkC M 5) (fun k hk => sp_rk_1 (rkC_b (w := 2) hk (by omega)) (rkC_x _ _ (by omega)) rfl) (sp_rk_2 (rkC_a (w := 2) (by omega))) ?_
  refine gl_aload_1 (pc := 58) C dX1_copyFrom_58 ?_
  refine gl_getR (pc := 59) C dX1_copyFrom_59 fX1_copyFrom_21 rfl rfl ?_
  refine gl_iconst (pc := 62) (nI 0) C dX1_copyFrom_62 (by decide) ?_
  refine gl_aload_0 (pc := 63) C dX1_copyFrom_63 ?_
  refine gl_getR (pc := 64) C dX1_copyFrom_64 fX1_copyFrom_21 rfl rfl ?_
  refine gl_iconst (pc := 67) (nI 0) C dX1_copyFrom_67 (by decide) ?_
  refine gl_iconst (pc := 68) (nI 5) C dX1_copyFrom_68 (by decide) ?_
  refine gl_copy (pc := 69) C dX1_copyFrom_69 (by decide +kernel) (by decide +kernel) (by decide +kernel) (by decide +kernel) ⟨Nat.le_of_ble_eq_true rfl, by decide +kernel⟩ rfl rfl (sp_rk rkC M 6) (fun k hk => sp_rk_1 (rkC_b (w := 3) hk (by omega)) (rkC_x _ _ (by omega)) rfl) (sp_rk_2 (rkC_a (w := 3) (by omega))) ?_
  refine gl_aload_1 (pc := 72) C dX1_copyFrom_72 ?_
  refine gl_getR (pc := 73) C dX1_copyFrom_73 fX1_copyFrom_24 rfl rfl ?_
  refine gl_iconst (pc := 76) (nI 0) C dX1_copyFrom_76 (by decide) ?_
  refine gl_aload_0 (pc := 77) C dX1_copyFrom_77 ?_
  refine gl_getR (pc := 78) C dX1_copyFrom_78 fX1_copyFrom_24 rfl rfl ?_
  refine gl_iconst (pc := 81) (nI 0) C dX1_copyFrom_81 (by decide) ?_
  refine gl_iconst (pc := 82) (nI 5) C dX1_copyFrom_82 (by decide) ?_
  refine gl_copy (pc := 83) C dX1_copyFrom_83 (by decide +kernel) (by decide +kernel) (by decide +kernel) (by decide +kernel) ⟨Nat.le_of_ble_eq_true rfl, by decide +kernel⟩ rfl rfl (sp_rk rkC M 7) (fun k hk => sp_rk_1 (rkC_b (w := 4) hk (by omega)) (rkC_x _ _ (by omega)) rfl) (sp_rk_2 (rkC_a (w := 4) (by omega))) ?_
  refine gl_aload_1 (pc := 86) C dX1_copyFrom_86 ?_
  refine gl_getR (pc := 87) C dX1_copyFrom_87 fX1_copyFrom_27 rfl rfl ?_
  refine gl_iconst (pc := 90) (nI 0) C dX1_copyFrom_90 (by decide) ?_
  refine gl_aload_0 (pc := 91) C dX1_copyFrom_91 ?_
  refine gl_getR (pc := 92) C dX1_copyFrom_92 fX1_copyFrom_27 rfl rfl ?_
  refine gl_iconst (pc := 95) (nI 0) C dX1_copyFrom_95 (by decide) ?_
  refine gl_iconst (pc := 96) (nI 5) C dX1_copyFrom_96 (by decide) ?_
  refine gl_copy (pc := 97) C dX1_copyFrom_97 (by decide +kernel) (by decide +kernel) (by decide +kernel) (by decide +kernel) ⟨Nat.le_of_ble_eq_true rfl, by decide +kernel⟩ rfl rfl (sp_rk rkC M 8) (fun k hk => sp_rk_1 (rkC_b (w := 5) hk (by omega)) (rkC_x _ _ (by omega)) rfl) (sp_rk_2 (rkC_a (w := 5) (by omega))) ?_
  exact gl_vret (pc := 100) C dX1_copyFrom_100 (rfl)
set_option maxRecDepth 100000 in
set_option maxHeartbeats 4000000 in
theorem ctX0_copyFrom (F : gl_F) (M : Nat → Int32) : gl_Ct F L2 yX0_copyFrom wsX0_copyFrom rmX0_copyFrom [.ref (gl_r F 9), .ref (gl_r F 27)] M (none) (sp_rk rkK M 9) := by
  refine gl_met (cc := cX0_copyFrom) (maxL := 2) (ret := none) [some (.ref (gl_r F 9)), some (.ref (gl_r F 27))] (plainFor_of_name (by decide)) rfl ok_L2 (by simp [Value.category]) (Nat.le_of_ble_eq_true rfl) rfl (fun V hV C => ?_)
  subst hV
  refine gl_mem (sp_rk_0 (rk := rkK)).symm ?_
  refine gl_aload_0 (pc := 0) C dX0_copyFrom_0 ?_
  refine gl_aload_1 (pc := 1) C dX0_copyFrom_1 ?_
  refine gl_getI (pc := 2) C dX0_copyFrom_2 fX0_copyFrom_36 rfl rfl ?_
  refine gl_put (pc := 5) C dX0_copyFrom_5 pX0_copyFrom_36 rfl rfl ?_
  refine gl_mem (sp_rk_f rkK_0 (rkK_x _ _ (by omega))) ?_
  refine gl_aload_1 (pc := 8) C dX0_copyFrom_8 ?_
  refine gl_getR (pc := 9) C dX0_copyFrom_9 fX0_copyFrom_9 rfl rfl ?_
  refine gl_iconst (pc := 12) (nI 0) C dX0_copyFrom_12 (by decide) ?_
  refine gl_aload_0 (pc := 13) C dX0_copyFrom_13 ?_
  refine gl_getR (pc := 14) C dX0_copyFrom_14 fX0_copyFrom_9 rfl rfl ?_
  refine gl_iconst (pc := 17) (nI 0) C dX0_copyFrom_17 (by decide) ?_
  refine gl_bipush (pc := 18) (nI 40) C dX0_copyFrom_18 (by decide +kernel) ?_
  refine gl_copy (pc := 20) C dX0_copyFrom_20 (by decide +kernel) (by decide +kernel) (by decide +kernel) (by decide +kernel) ⟨Nat.le_of_ble_eq_true rfl, by decide +kernel⟩ rfl rfl (sp_rk rkK M 2) (fun k hk => sp_rk_1 (rkK_b (w := 0) hk (by omega)) (rkK_x _ _ (by omega)) rfl) (sp_rk_2 (rkK_a (w := 0) (by omega))) ?_
  refine gl_aload_1 (pc := 23) C dX0_copyFrom_23 ?_
  refine gl_getR (pc := 24) C dX0_copyFrom_24 fX0_copyFrom_15 rfl rfl ?_
  refine gl_iconst (pc := 27) (nI 0) C dX0_copyFrom_27 (by decide) ?_
  refine gl_aload_0 (pc := 28) C dX0_copyFrom_28 ?_
  refine gl_getR (pc := 29) C dX0_copyFrom_29 fX0_copyFrom_15 rfl rfl ?_
  refine gl_iconst (pc := 32) (nI 0) C dX0_copyFrom_32 (by decide) ?_
  refine gl_bipush (pc := 33) (nI 40) C dX0_copyFrom_33 (by decide +kernel) ?_
  refine gl_copy (pc := 35) C dX0_copyFrom_35 (by decide +kernel) (by decide +kernel) (by decide +kernel) (by decide +kernel) ⟨Nat.le_of_ble_eq_true rfl, by decide +kernel⟩ rfl rfl (sp_rk rkK M 3) (fun k hk => sp_rk_1 (rkK_b (w := 1) hk (by omega)) (rkK_x _ _ (by omega)) rfl) (sp_rk_2 (rkK_a (w := 1) (by omega))) ?_
  refine gl_aload_1 (pc := 38) C dX0_copyFrom_38 ?_
  refine gl_getR (pc := 39) C dX0_copyFrom_39 fX0_copyFrom_18 rfl rfl ?_
  refine gl_iconst (pc := 42) (nI 0) C dX0_copyFrom_42 (by decide) ?_
  refine gl_aload_0 (pc := 43) C dX0_copyFrom_43 ?_
  refine gl_getR (pc := 44) C dX0_copyFrom_44 fX0_copyFrom_18 rfl rfl ?_
  refine gl_iconst (pc := 47) (nI 0) C dX0_copyFrom_47 (by decide) ?_
  refine gl_bipush (pc := 48) (nI 40) C dX0_copyFrom_48 (by decide +kernel) ?_
  refine gl_copy (pc := 50) C dX0_copyFrom_50 (by decide +kernel) (by decide +kernel) (by decide +kernel) (by decide +kernel) ⟨Nat.le_of_ble_eq_true rfl, by decide +kernel⟩ rfl rfl (sp_rk rkK M 4) (fun k hk => sp_rk_1 (rkK_b (w := 2) hk (by omega)) (rkK_x _ _ (by omega)) rfl) (sp_rk_2 (rkK_a (w := 2) (by omega))) ?_
  refine gl_aload_1 (pc := 53) C dX0_copyFrom_53 ?_
  refine gl_getR (pc := 54) C dX0_copyFrom_54 fX0_copyFrom_21 rfl rfl ?_
  refine gl_iconst (pc := 57) (nI 0) C dX0_copyFrom_57 (by decide) ?_
  refine gl_aload_0 (pc := 58) C dX0_copyFrom_58 ?_
  refine gl_getR (pc := 59) C dX0_copyFrom_59 fX0_copyFrom_21 rfl rfl ?_
  refine gl_iconst (pc := 62) (nI 0) C dX0_copyFrom_62 (by decide) ?_
  refine gl_bipush (pc := 63) (nI 40) C dX0_copyFrom_63 (by decide +kernel) ?_
  refine gl_copy (pc := 65) C dX0_copyFrom_65 (by decide +kernel) (by decide +kernel) (by decide +kernel) (by decide +kernel) ⟨Nat.le_of_ble_eq_true rfl, by decide +kernel⟩ rfl rfl (sp_rk rkK M 5) (fun k hk => sp_rk_1 (rkK_b (w := 3) hk (by omega)) (rkK_x _ _ (by omega)) rfl) (sp_rk_2 (rkK_a (w := 3) (by omega))) ?_
  refine gl_aload_1 (pc := 68) C dX0_copyFrom_68 ?_
  refine gl_getR (pc := 69) C dX0_copyFrom_69 fX0_copyFrom_24 rfl rfl ?_
  refine gl_iconst (pc := 72) (nI 0) C dX0_copyFrom_72 (by decide) ?_
  refine gl_aload_0 (pc := 73) C dX0_copyFrom_73 ?_
  refine gl_getR (pc := 74) C dX0_copyFrom_74 fX0_copyFrom_24 rfl rfl ?_
  refine gl_iconst (pc := 77) (nI 0) C dX0_copyFrom_77 (by decide) ?_
  refine gl_bipush (pc := 78) (nI 40) C dX0_copyFrom_78 (by decide +kernel) ?_
  refine gl_copy (pc := 80) C dX0_copyFrom_80 (by decide +kernel) (by decide +kernel) (by decide +kernel) (by decide +kernel) ⟨Nat.le_of_ble_eq_true rfl, by decide +kernel⟩ rfl rfl (sp_rk rkK M 6) (fun k hk => sp_rk_1 (rkK_b (w := 4) hk (by omega)) (rkK_x _ _ (by omega)) rfl) (sp_rk_2 (rkK_a (w := 4) (by omega))) ?_
  refine gl_aload_1 (pc := 83) C dX0_copyFrom_83 ?_
  refine gl_getR (pc := 84) C dX0_copyFrom_84 fX0_copyFrom_27 rfl rfl ?_
  refine gl_iconst (pc := 87) (nI 0) C dX0_copyFrom_87 (by decide) ?_
  refine gl_aload_0 (pc := 88) C dX0_copyFrom_88 ?_
  refine gl_getR (pc := 89) C dX0_copyFrom_89 fX0_copyFrom_27 rfl rfl ?_
  refine gl_iconst (pc := 92) (nI 0) C dX0_copyFrom_92 (by decide) ?_
  refine gl_bipush (pc := 93) (nI 40) C dX0_copyFrom_93 (by decide +kernel) ?_
  refine gl_copy (pc := 95) C dX0_copyFrom_95 (by decide +kernel) (by decide +kernel) (by decide +kernel) (by decide +kernel) ⟨Nat.le_of_ble_eq_true rfl, by decide +kernel⟩ rfl rfl (sp_rk rkK M 7) (fun k hk => sp_rk_1 (rkK_b (w := 5) hk (by omega)) (rkK_x _ _ (by omega)) rfl) (sp_rk_2 (rkK_a (w := 5) (by omega))) ?_
  refine gl_aload_1 (pc := 98) C dX0_copyFrom_98 ?_
  refine gl_getR (pc := 99) C dX0_copyFrom_99 fX0_copyFrom_30 rfl rfl ?_
  refine gl_iconst (pc := 102) (nI 0) C dX0_copyFrom_102 (by decide) ?_
  refine gl_aload_0 (pc := 103) C dX0_copyFrom_103 ?_
  refine gl_getR (pc := 104) C dX0_copyFrom_104 fX0_copyFrom_30 rfl rfl ?_
  refine gl_iconst (pc := 107) (nI 0) C dX0_copyFrom_107 (by decide) ?_
  refine gl_bipush (pc := 108) (nI 40) C dX0_copyFrom_108 (by decide +kernel) ?_
  refine gl_copy (pc := 110) C dX0_copyFrom_110 (by decide +kernel) (by decide +kernel) (by decide +kernel) (by decide +kernel) ⟨Nat.le_of_ble_eq_true rfl, by decide +kernel⟩ rfl rfl (sp_rk rkK M 8) (fun k hk => sp_rk_1 (rkK_b (w := 6) hk (by omega)) (rkK_x _ _ (by omega)) rfl) (sp_rk_2 (rkK_a (w := 6) (by omega))) ?_
  refine gl_aload_1 (pc := 113) C dX0_copyFrom_113 ?_
  refine gl_getR (pc := 114) C dX0_copyFrom_114 fX0_copyFrom_33 rfl rfl ?_
  refine gl_iconst (pc := 117) (nI 0) C dX0_copyFrom_117 (by decide) ?_
  refine gl_aload_0 (pc := 118) C dX0_copyFrom_118 ?_
  refine gl_getR (pc := 119) C dX0_copyFrom_119 fX0_copyFrom_33 rfl rfl ?_
  refine gl_iconst (pc := 122) (nI 0) C dX0_copyFrom_122 (by decide) ?_
  refine gl_bipush (pc := 123) (nI 40) C dX0_copyFrom_123 (by decide +kernel) ?_
  refine gl_copy (pc := 125) C dX0_copyFrom_125 (by decide +kernel) (by decide +kernel) (by decide +kernel) (by decide +kernel) ⟨Nat.le_of_ble_eq_true rfl, by decide +kernel⟩ rfl rfl (sp_rk rkK M 9) (fun k hk => sp_rk_1 (rkK_b (w := 7) hk (by omega)) (rkK_x _ _ (by omega)) rfl) (sp_rk_2 (rkK_a (w := 7) (by omega))) ?_
  exact gl_vret (pc := 128) C dX0_copyFrom_128 (rfl)
set_option maxRecDepth 100000 in
set_option maxHeartbeats 4000000 in
theorem ctX3_copyFrom (F : gl_F) (M : Nat → Int32) : gl_Ct F L2 yX3_copyFrom wsX3_copyFrom rmX3_copyFrom [.ref (gl_r F 0), .ref (gl_r F 18)] M (none) (sp_cpy M) := by
  refine gl_met (cc := cX3_copyFrom) (maxL := 2) (ret := none) [some (.ref (gl_r F 0)), some (.ref (gl_r F 18))] (plainFor_of_name (by decide)) rfl ok_L2 (by simp [Value.category]) (Nat.le_of_ble_eq_true rfl) rfl (fun V hV C => ?_)
  subst hV
  refine gl_mem (sp_rk_0 (rk := rkH)).symm ?_
  refine gl_aload_0 (pc := 0) C dX3_copyFrom_0 ?_
  refine gl_aload_1 (pc := 1) C dX3_copyFrom_1 ?_
  refine gl_getI (pc := 2) C dX3_copyFrom_2 fX3_copyFrom_29 rfl rfl ?_
  refine gl_put (pc := 5) C dX3_copyFrom_5 pX3_copyFrom_29 rfl rfl ?_
  refine gl_mem (sp_rk_f rkH_0 (rkH_x _ _ (by omega))) ?_
  refine gl_aload_1 (pc := 8) C dX3_copyFrom_8 ?_
  refine gl_getR (pc := 9) C dX3_copyFrom_9 fX3_copyFrom_9 rfl rfl ?_
  refine gl_iconst (pc := 12) (nI 0) C dX3_copyFrom_12 (by decide) ?_
  refine gl_aload_0 (pc := 13) C dX3_copyFrom_13 ?_
  refine gl_getR (pc := 14) C dX3_copyFrom_14 fX3_copyFrom_9 rfl rfl ?_
  refine gl_iconst (pc := 17) (nI 0) C dX3_copyFrom_17 (by decide) ?_
  refine gl_bipush (pc := 18) (nI 24) C dX3_copyFrom_18 (by decide +kernel) ?_
  refine gl_copy (pc := 20) C dX3_copyFrom_20 (by decide +kernel) (by decide +kernel) (by decide +kernel) (by decide +kernel) ⟨Nat.le_of_ble_eq_true rfl, by decide +kernel⟩ rfl rfl (sp_rk rkH M 2) (fun k hk => sp_rk_1 (rkH_b hk) (rkH_x _ _ (by omega)) rfl) (sp_rk_2 (rkH_a)) ?_
  refine gl_aload_0 (pc := 23) C dX3_copyFrom_23 ?_
  refine gl_getR (pc := 24) C dX3_copyFrom_24 fX3_copyFrom_18 rfl rfl ?_
  refine gl_aload_1 (pc := 27) C dX3_copyFrom_27 ?_
  refine gl_getR (pc := 28) C dX3_copyFrom_28 fX3_copyFrom_18 rfl rfl ?_
  refine gl_callVv (pc := 31) (ctX1_copyFrom V.1 (sp_rk rkH M 2)) C dX3_copyFrom_31 gX3_copyFrom_X1_copyFrom rfl hdX1_copyFrom ⟨rfl, rfl, Nat.le_of_ble_eq_true rfl, Nat.le_of_ble_eq_true rfl⟩ rfl (Nat.le_of_ble_eq_true rfl) rfl rfl rfl ?_
  refine gl_mem rkH_3 ?_
  refine gl_aload_0 (pc := 34) C dX3_copyFrom_34 ?_
  refine gl_getR (pc := 35) C dX3_copyFrom_35 fX3_copyFrom_25 rfl rfl ?_
  refine gl_aload_1 (pc := 38) C dX3_copyFrom_38 ?_
  refine gl_getR (pc := 39) C dX3_copyFrom_39 fX3_copyFrom_25 rfl rfl ?_
  refine gl_callVv (pc := 42) (ctX0_copyFrom V.1 (sp_rk rkH M 3)) C dX3_copyFrom_42 gX3_copyFrom_X0_copyFrom rfl hdX0_copyFrom ⟨rfl, rfl, Nat.le_of_ble_eq_true rfl, Nat.le_of_ble_eq_true rfl⟩ rfl (Nat.le_of_ble_eq_true rfl) rfl rfl rfl ?_
  refine gl_mem rkH_4 ?_
  exact gl_vret (pc := 45) C dX3_copyFrom_45 (rfl)
