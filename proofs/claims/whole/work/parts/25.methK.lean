theorem fX4_count_10 : gl_fl wsX4_count RX4 10 4 0 := ⟨RX4, TX4, 3, RX4, rfl, by decide, by decide +kernel, by decide +kernel, rfl⟩
theorem fX4_count_22 : gl_fl wsX4_count RX4 22 4 2 := ⟨RX4, TX4, 3, RX4, rfl, by decide, by decide +kernel, by decide +kernel, rfl⟩
theorem fX4_count_30 : gl_fl wsX4_count RX4 30 3 2 := ⟨RX3, TX3, 4, RX3, rfl, by decide, by decide +kernel, by decide +kernel, rfl⟩
theorem fX4_count_34 : gl_fl wsX4_count RX4 34 1 0 := ⟨RX1, TX1, 8, RX1, rfl, by decide, by decide +kernel, by decide +kernel, rfl⟩
theorem fX4_count_58 : gl_fl wsX4_count RX4 58 3 3 := ⟨RX3, TX3, 4, RX3, rfl, by decide, by decide +kernel, by decide +kernel, rfl⟩
theorem fX4_count_82 : gl_fl wsX4_count RX4 82 0 0 := ⟨RX0, TX0, 9, RX0, rfl, by decide, by decide +kernel, by decide +kernel, rfl⟩
theorem fX4_count_87 : gl_fl wsX4_count RX4 87 3 0 := ⟨RX3, TX3, 4, RX3, rfl, by decide, by decide +kernel, by decide +kernel, rfl⟩
theorem fX4_count_98 : gl_fl wsX4_count RX4 98 2 0 := ⟨RX2, TX2, 3, RX2, rfl, by decide, by decide +kernel, by decide +kernel, rfl⟩
theorem fX4_count_112 : gl_fl wsX4_count RX4 112 1 1 := ⟨RX1, TX1, 8, RX1, rfl, by decide, by decide +kernel, by decide +kernel, rfl⟩
theorem fX4_car_10 : gl_fl wsX4_car RX4 10 4 0 := ⟨RX4, TX4, 3, RX4, rfl, by decide, by decide +kernel, by decide +kernel, rfl⟩
theorem fX4_car_30 : gl_fl wsX4_car RX4 30 3 2 := ⟨RX3, TX3, 4, RX3, rfl, by decide, by decide +kernel, by decide +kernel, rfl⟩
theorem fX4_car_55 : gl_fl wsX4_car RX4 55 1 6 := ⟨RX1, TX1, 8, RX1, rfl, by decide, by decide +kernel, by decide +kernel, rfl⟩
theorem fX4_car_58 : gl_fl wsX4_car RX4 58 3 3 := ⟨RX3, TX3, 4, RX3, rfl, by decide, by decide +kernel, by decide +kernel, rfl⟩
theorem fX4_car_75 : gl_fl wsX4_car RX4 75 1 5 := ⟨RX1, TX1, 8, RX1, rfl, by decide, by decide +kernel, by decide +kernel, rfl⟩
theorem fX4_car_130 : gl_fl wsX4_car RX4 130 1 7 := ⟨RX1, TX1, 8, RX1, rfl, by decide, by decide +kernel, by decide +kernel, rfl⟩
theorem fX4_caller_10 : gl_fl wsX4_caller RX4 10 4 0 := ⟨RX4, TX4, 3, RX4, rfl, by decide, by decide +kernel, by decide +kernel, rfl⟩
theorem fX4_caller_58 : gl_fl wsX4_caller RX4 58 3 3 := ⟨RX3, TX3, 4, RX3, rfl, by decide, by decide +kernel, by decide +kernel, rfl⟩
theorem fX4_caller_137 : gl_fl wsX4_caller RX4 137 0 1 := ⟨RX0, TX0, 9, RX0, rfl, by decide, by decide +kernel, by decide +kernel, rfl⟩
theorem fX4_caller_138 : gl_fl wsX4_caller RX4 138 0 2 := ⟨RX0, TX0, 9, RX0, rfl, by decide, by decide +kernel, by decide +kernel, rfl⟩
theorem fX4_caller_141 : gl_fl wsX4_caller RX4 141 0 3 := ⟨RX0, TX0, 9, RX0, rfl, by decide, by decide +kernel, by decide +kernel, rfl⟩
theorem fX4_caller_144 : gl_fl wsX4_caller RX4 144 0 4 := ⟨RX0, TX0, 9, RX0, rfl, by decide, by decide +kernel, by decide +kernel, rfl⟩
theorem fX4_caller_147 : gl_fl wsX4_caller RX4 147 0 5 := ⟨RX0, TX0, 9, RX0, rfl, by decide, by decide +kernel, by decide +kernel, rfl⟩
theorem fX4_caller_150 : gl_fl wsX4_caller RX4 150 0 6 := ⟨RX0, TX0, 9, RX0, rfl, by decide, by decide +kernel, by decide +kernel, rfl⟩
theorem fX4_caller_153 : gl_fl wsX4_caller RX4 153 0 7 := ⟨RX0, TX0, 9, RX0, rfl, by decide, by decide +kernel, by decide +kernel, rfl⟩
theorem fX4_caller_156 : gl_fl wsX4_caller RX4 156 0 8 := ⟨RX0, TX0, 9, RX0, rfl, by decide, by decide +kernel, by decide +kernel, rfl⟩
theorem fX4_group_10 : gl_fl wsX4_group RX4 10 4 0 := ⟨RX4, TX4, 3, RX4, rfl, by decide, by decide +kernel, by decide +kernel, rfl⟩
theorem fX4_group_58 : gl_fl wsX4_group RX4 58 3 3 := ⟨RX3, TX3, 4, RX3, rfl, by decide, by decide +kernel, by decide +kernel, rfl⟩
theorem fX4_group_137 : gl_fl wsX4_group RX4 137 0 1 := ⟨RX0, TX0, 9, RX0, rfl, by decide, by decide +kernel, by decide +kernel, rfl⟩
theorem fX4_group_138 : gl_fl wsX4_group RX4 138 0 2 := ⟨RX0, TX0, 9, RX0, rfl, by decide, by decide +kernel, by decide +kernel, rfl⟩
theorem fX4_cost_10 : gl_fl wsX4_cost RX4 10 4 0 := ⟨RX4, TX4, 3, RX4, rfl, by decide, by decide +kernel, by decide +kernel, rfl⟩
theorem fX4_cost_30 : gl_fl wsX4_cost RX4 30 3 2 := ⟨RX3, TX3, 4, RX3, rfl, by decide, by decide +kernel, by decide +kernel, rfl⟩
theorem fX4_would_10 : gl_fl wsX4_would RX4 10 4 0 := ⟨RX4, TX4, 3, RX4, rfl, by decide, by decide +kernel, by decide +kernel, rfl⟩
theorem fX4_thereIn_10 : gl_fl wsX4_thereIn RX4 10 4 0 := ⟨RX4, TX4, 3, RX4, rfl, by decide, by decide +kernel, by decide +kernel, rfl⟩
theorem fX4_thereIn_16 : gl_fl wsX4_thereIn RX4 16 4 1 := ⟨RX4, TX4, 3, RX4, rfl, by decide, by decide +kernel, by decide +kernel, rfl⟩
theorem fX4_thereIn_58 : gl_fl wsX4_thereIn RX4 58 3 3 := ⟨RX3, TX3, 4, RX3, rfl, by decide, by decide +kernel, by decide +kernel, rfl⟩
theorem fX4_thereIn_141 : gl_fl wsX4_thereIn RX4 141 0 3 := ⟨RX0, TX0, 9, RX0, rfl, by decide, by decide +kernel, by decide +kernel, rfl⟩
theorem fX4_allThereInWithout_10 : gl_fl wsX4_allThereInWithout RX4 10 4 0 := ⟨RX4, TX4, 3, RX4, rfl, by decide, by decide +kernel, by decide +kernel, rfl⟩
theorem fX4_allThereInWithout_16 : gl_fl wsX4_allThereInWithout RX4 16 4 1 := ⟨RX4, TX4, 3, RX4, rfl, by decide, by decide +kernel, by decide +kernel, rfl⟩
theorem fX4_allThereInWithout_58 : gl_fl wsX4_allThereInWithout RX4 58 3 3 := ⟨RX3, TX3, 4, RX3, rfl, by decide, by decide +kernel, by decide +kernel, rfl⟩
theorem fX4_allThereInWithout_82 : gl_fl wsX4_allThereInWithout RX4 82 0 0 := ⟨RX0, TX0, 9, RX0, rfl, by decide, by decide +kernel, by decide +kernel, rfl⟩
theorem fX4_worstCar_10 : gl_fl wsX4_worstCar RX4 10 4 0 := ⟨RX4, TX4, 3, RX4, rfl, by decide, by decide +kernel, by decide +kernel, rfl⟩
theorem fX4_worstCar_30 : gl_fl wsX4_worstCar RX4 30 3 2 := ⟨RX3, TX3, 4, RX3, rfl, by decide, by decide +kernel, by decide +kernel, rfl⟩
theorem fX4_worstCar_34 : gl_fl wsX4_worstCar RX4 34 1 0 := ⟨RX1, TX1, 8, RX1, rfl, by decide, by decide +kernel, by decide +kernel, rfl⟩
theorem fX4_worstCar_55 : gl_fl wsX4_worstCar RX4 55 1 6 := ⟨RX1, TX1, 8, RX1, rfl, by decide, by decide +kernel, by decide +kernel, rfl⟩
theorem fX4_waits_10 : gl_fl wsX4_waits RX4 10 4 0 := ⟨RX4, TX4, 3, RX4, rfl, by decide, by decide +kernel, by decide +kernel, rfl⟩
theorem fX4_waits_58 : gl_fl wsX4_waits RX4 58 3 3 := ⟨RX3, TX3, 4, RX3, rfl, by decide, by decide +kernel, by decide +kernel, rfl⟩
theorem fX4_waits_82 : gl_fl wsX4_waits RX4 82 0 0 := ⟨RX0, TX0, 9, RX0, rfl, by decide, by decide +kernel, by decide +kernel, rfl⟩
theorem fX4_waits_87 : gl_fl wsX4_waits RX4 87 3 0 := ⟨RX3, TX3, 4, RX3, rfl, by decide, by decide +kernel, by decide +kernel, rfl⟩
set_option maxRecDepth 100000 in
set_option maxHeartbeats 4000000 in
theorem ctX4_count (F : gl_F) {n m t : Nat} {G S : Nat → Int32} (w : sp_W n m t S) (ht31 : t < 2000000) (hS : sp_ag G 0 S) {p : Nat} (hp : G 2646 = nI p) (x : Int32) : gl_Ct F LC yX4_count wsX4_count rmX4_count [.ref (gl_r F 126), .int x] G (some (.int (pa_tab 13 (pc_count S n m t p) x))) (G) := by
  refine gl_met (cc := cX4_count) (maxL := 2) (ret := some .int) [some (.ref (gl_r F 126)), some (.int x)] (plainFor_of_name (by decide)) rfl ok_LC (by simp [Value.category]) (Nat.le_of_ble_eq_true rfl) rfl (fun V hV C => ?_)
  subst hV
  obtain ⟨hn40, hm5, hn, hm, ht, hcar, hcal⟩ := id w
  have h0 := sp_ag_0 hS
  refine gl_iload_1 (pc := 0) C dX4_count_0 ?_
  rcases gl_cases x 13 (by omega) with hsw | ⟨i1, hi1, ex1⟩
  · skip
    refine gl_tableOut (pc := 1) 223 C dX4_count_1 hsw (by decide) ?_
    refine gl_iconst (pc := 223) (-1) C dX4_count_223 (by decide) ?_
    exact gl_iret (pc := 224) C dX4_count_224 ((pa_tab_out hsw).symm) (rfl)
  · subst ex1
    rcases (show i1 = 0 ∨ i1 = 1 ∨ i1 = 2 ∨ i1 = 3 ∨ i1 = 4 ∨ i1 = 5 ∨ i1 = 6 ∨ i1 = 7 ∨ i1 = 8 ∨ i1 = 9 ∨ i1 = 10 ∨ i1 = 11 ∨ i1 = 12 ∨ i1 = 13 by omega) with rfl | rfl | rfl | rfl | rfl | rfl | rfl | rfl | rfl | rfl | rfl | rfl | rfl | rfl
    · skip
      refine gl_tableIn (pc := 1) (off := 71) 72 C dX4_count_1 (by decide) (by decide) (by decide) (by decide) ?_
      refine gl_aload_0 (pc := 72) C dX4_count_72 ?_
      refine gl_getR (pc := 73) C dX4_count_73 fX4_count_10 rfl rfl ?_
      refine gl_getI (pc := 76) C dX4_count_76 fX4_count_87 rfl rfl ?_
      refine gl_top ((h0 0 (by omega)).trans ht) ?_
      exact gl_iret (pc := 79) C dX4_count_79 (by refine Eq.symm (pa_tab_in ?_ ?_) <;> omega) (rfl)
    · skip
      refine gl_tableIn (pc := 1) (off := 79) 80 C dX4_count_1 (by decide) (by decide) (by decide) (by decide) ?_
      refine gl_aload_0 (pc := 80) C dX4_count_80 ?_
      refine gl_getR (pc := 81) C dX4_count_81 fX4_count_10 rfl rfl ?_
      refine gl_callVi (pc := 84) (gl_up1r 0 (by omega) hS (ctX3_hour (gl_sh V.1 (gl_eH 0)) w (by omega))) C dX4_count_84 gX4_count_X3_hour rfl hdX3_hour ⟨rfl, rfl, Nat.le_of_ble_eq_true rfl, Nat.le_of_ble_eq_true rfl⟩ rfl (Nat.le_of_ble_eq_true rfl) rfl rfl rfl ?_
      exact gl_iret (pc := 87) C dX4_count_87 (by refine Eq.symm (pa_tab_in ?_ ?_) <;> omega) (rfl)
    · skip
      refine gl_tableIn (pc := 1) (off := 87) 88 C dX4_count_1 (by decide) (by decide) (by decide) (by decide) ?_
      refine gl_aload_0 (pc := 88) C dX4_count_88 ?_
      refine gl_getR (pc := 89) C dX4_count_89 fX4_count_10 rfl rfl ?_
      refine gl_getR (pc := 92) C dX4_count_92 fX4_count_30 rfl rfl ?_
      refine gl_getI (pc := 95) C dX4_count_95 fX4_count_34 rfl rfl ?_
      refine gl_top ((h0 1 (by omega)).trans hm) ?_
      exact gl_iret (pc := 98) C dX4_count_98 (by refine Eq.symm (pa_tab_in ?_ ?_) <;> omega) (rfl)
    · skip
      refine gl_tableIn (pc := 1) (off := 98) 99 C dX4_count_1 (by decide) (by decide) (by decide) (by decide) ?_
      refine gl_aload_0 (pc := 99) C dX4_count_99 ?_
      refine gl_getR (pc := 100) C dX4_count_100 fX4_count_10 rfl rfl ?_
      refine gl_getR (pc := 103) C dX4_count_103 fX4_count_58 rfl rfl ?_
      refine gl_getI (pc := 106) C dX4_count_106 fX4_count_82 rfl rfl ?_
      refine gl_top ((h0 2 (by omega)).trans hn) ?_
      exact gl_iret (pc := 109) C dX4_count_109 (by refine Eq.symm (pa_tab_in ?_ ?_) <;> omega) (rfl)
    · skip
      refine gl_tableIn (pc := 1) (off := 109) 110 C dX4_count_1 (by decide) (by decide) (by decide) (by decide) ?_
      refine gl_aload_0 (pc := 110) C dX4_count_110 ?_
      refine gl_getR (pc := 111) C dX4_count_111 fX4_count_10 rfl rfl ?_
      refine gl_getR (pc := 114) C dX4_count_114 fX4_count_58 rfl rfl ?_
      refine gl_iconst (pc := 117) (nI 0) C dX4_count_117 (by decide) ?_
      refine gl_callVi (pc := 118) (gl_up1r 0 (by omega) hS (ctX0_numberIn (gl_sh V.1 (gl_eH 0)) hn40 hn (nI 0))) C dX4_count_118 gX4_count_X0_numberIn rfl hdX0_numberIn ⟨rfl, rfl, Nat.le_of_ble_eq_true rfl, Nat.le_of_ble_eq_true rfl⟩ rfl (Nat.le_of_ble_eq_true rfl) rfl rfl rfl ?_
      exact gl_iret (pc := 121) C dX4_count_121 (by refine Eq.symm (pa_tab_in ?_ ?_) <;> omega) (rfl)
    · skip
      refine gl_tableIn (pc := 1) (off := 121) 122 C dX4_count_1 (by decide) (by decide) (by decide) (by decide) ?_
      refine gl_aload_0 (pc := 122) C dX4_count_122 ?_
      refine gl_getR (pc := 123) C dX4_count_123 fX4_count_10 rfl rfl ?_
      refine gl_getR (pc := 126) C dX4_count_126 fX4_count_58 rfl rfl ?_
      refine gl_iconst (pc := 129) (nI 1) C dX4_count_129 (by decide) ?_
      refine gl_callVi (pc := 130) (gl_up1r 0 (by omega) hS (ctX0_numberIn (gl_sh V.1 (gl_eH 0)) hn40 hn (nI 1))) C dX4_count_130 gX4_count_X0_numberIn rfl hdX0_numberIn ⟨rfl, rfl, Nat.le_of_ble_eq_true rfl, Nat.le_of_ble_eq_true rfl⟩ rfl (Nat.le_of_ble_eq_true rfl) rfl rfl rfl ?_
      exact gl_iret (pc := 133) C dX4_count_133 (by refine Eq.symm (pa_tab_in ?_ ?_) <;> omega) (rfl)
    · skip
      refine gl_tableIn (pc := 1) (off := 133) 134 C dX4_count_1 (by decide) (by decide) (by decide) (by decide) ?_
      refine gl_aload_0 (pc := 134) C dX4_count_134 ?_
      refine gl_getR (pc := 135) C dX4_count_135 fX4_count_10 rfl rfl ?_
      refine gl_getR (pc := 138) C dX4_count_138 fX4_count_58 rfl rfl ?_
      refine gl_iconst (pc := 141) (nI 2) C dX4_count_141 (by decide) ?_
      refine gl_callVi (pc := 142) (gl_up1r 0 (by omega) hS (ctX0_numberIn (gl_sh V.1 (gl_eH 0)) hn40 hn (nI 2))) C dX4_count_142 gX4_count_X0_numberIn rfl hdX0_numberIn ⟨rfl, rfl, Nat.le_of_ble_eq_true rfl, Nat.le_of_ble_eq_true rfl⟩ rfl (Nat.le_of_ble_eq_true rfl) rfl rfl rfl ?_
      exact gl_iret (pc := 145) C dX4_count_145 (by refine Eq.symm (pa_tab_in ?_ ?_) <;> omega) (rfl)
    · skip
      refine gl_tableIn (pc := 1) (off := 145) 146 C dX4_count_1 (by decide) (by decide) (by decide) (by decide) ?_
      refine gl_aload_0 (pc := 146) C dX4_count_146 ?_
      refine gl_getR (pc := 147) C dX4_count_147 fX4_count_10 rfl rfl ?_
      refine gl_getR (pc := 150) C dX4_count_150 fX4_count_58 rfl rfl ?_
      refine gl_iconst (pc := 153) (nI 3) C dX4_count_153 (by decide) ?_
      refine gl_callVi (pc := 154) (gl_up1r 0 (by omega) hS (ctX0_numberIn (gl_sh V.1 (gl_eH 0)) hn40 hn (nI 3))) C dX4_count_154 gX4_count_X0_numberIn rfl hdX0_numberIn ⟨rfl, rfl, Nat.le_of_ble_eq_true rfl, Nat.le_of_ble_eq_true rfl⟩ rfl (Nat.le_of_ble_eq_true rfl) rfl rfl rfl ?_
      exact gl_iret (pc := 157) C dX4_count_157 (by refine Eq.symm (pa_tab_in ?_ ?_) <;> omega) (rfl)
    · skip
      refine gl_tableIn (pc := 1) (off := 157) 158 C dX4_count_1 (by decide) (by decide) (by decide) (by decide) ?_
      refine gl_aload_0 (pc := 158) C dX4_count_158 ?_
      refine gl_getR (pc := 159) C dX4_count_159 fX4_count_10 rfl rfl ?_
      refine gl_getR (pc := 162) C dX4_count_162 fX4_count_58 rfl rfl ?_
      refine gl_callVi (pc := 165) (gl_up1r 0 (by omega) hS (ctX0_numberOfGroups (gl_sh V.1 (gl_eH 0)) hn40 hn)) C dX4_count_165 gX4_count_X0_numberOfGroups rfl hdX0_numberOfGroups ⟨rfl, rfl, Nat.le_of_ble_eq_true rfl, Nat.le_of_ble_eq_true rfl⟩ rfl (Nat.le_of_ble_eq_true rfl) rfl rfl rfl ?_
      exact gl_iret (pc := 168) C dX4_count_168 (by refine Eq.symm (pa_tab_in ?_ ?_) <;> omega) (rfl)
    · skip
      refine gl_tableIn (pc := 1) (off := 168) 169 C dX4_count_1 (by decide) (by decide) (by decide) (by decide) ?_
      refine gl_aload_0 (pc := 169) C dX4_count_169 ?_
      refine gl_getR (pc := 170) C dX4_count_170 fX4_count_10 rfl rfl ?_
      refine gl_getR (pc := 173) C dX4_count_173 fX4_count_30 rfl rfl ?_
      refine gl_callVi (pc := 176) (gl_up1r 0 (by omega) hS (ctX1_travelledByAll (gl_sh V.1 (gl_eH 0)) hm5 hm)) C dX4_count_176 gX4_count_X1_travelledByAll rfl hdX1_travelledByAll ⟨rfl, rfl, Nat.le_of_ble_eq_true rfl, Nat.le_of_ble_eq_true rfl⟩ rfl (Nat.le_of_ble_eq_true rfl) rfl rfl rfl ?_
      exact gl_iret (pc := 179) C dX4_count_179 (by refine Eq.symm (pa_tab_in ?_ ?_) <;> omega) (rfl)
    · skip
      refine gl_tableIn (pc := 1) (off := 179) 180 C dX4_count_1 (by decide) (by decide) (by decide) (by decide) ?_
      refine gl_aload_0 (pc := 180) C dX4_count_180 ?_
      refine gl_getR (pc := 181) C dX4_count_181 fX4_count_10 rfl rfl ?_
      refine gl_getR (pc := 184) C dX4_count_184 fX4_count_30 rfl rfl ?_
      refine gl_getI (pc := 187) C dX4_count_187 fX4_count_112 rfl rfl ?_
      refine gl_top (h0 3 (by omega)) ?_
      exact gl_iret (pc := 190) C dX4_count_190 (by refine Eq.symm (pa_tab_in ?_ ?_) <;> omega) (rfl)
    · skip
      refine gl_tableIn (pc := 1) (off := 190) 191 C dX4_count_1 (by decide) (by decide) (by decide) (by decide) ?_
      refine gl_aload_0 (pc := 191) C dX4_count_191 ?_
      refine gl_getR (pc := 192) C dX4_count_192 fX4_count_10 rfl rfl ?_
      refine gl_getR (pc := 195) C dX4_count_195 fX4_count_30 rfl rfl ?_
      refine gl_iconst (pc := 198) (nI 1) C dX4_count_198 (by decide) ?_
      refine gl_callVi (pc := 199) (gl_up1r 0 (by omega) hS (ctX1_numberIn (gl_sh V.1 (gl_eH 0)) hm5 hm (nI 1))) C dX4_count_199 gX4_count_X1_numberIn rfl hdX1_numberIn ⟨rfl, rfl, Nat.le_of_ble_eq_true rfl, Nat.le_of_ble_eq_true rfl⟩ rfl (Nat.le_of_ble_eq_true rfl) rfl rfl rfl ?_
      exact gl_iret (pc := 202) C dX4_count_202 (by refine Eq.symm (pa_tab_in ?_ ?_) <;> omega) (rfl)
    · skip
      refine gl_tableIn (pc := 1) (off := 202) 203 C dX4_count_1 (by decide) (by decide) (by decide) (by decide) ?_
      refine gl_aload_0 (pc := 203) C dX4_count_203 ?_
      refine gl_getR (pc := 204) C dX4_count_204 fX4_count_10 rfl rfl ?_
      refine gl_getR (pc := 207) C dX4_count_207 fX4_count_30 rfl rfl ?_
      refine gl_iconst (pc := 210) (nI 2) C dX4_count_210 (by decide) ?_
      refine gl_callVi (pc := 211) (gl_up1r 0 (by omega) hS (ctX1_numberIn (gl_sh V.1 (gl_eH 0)) hm5 hm (nI 2))) C dX4_count_211 gX4_count_X1_numberIn rfl hdX1_numberIn ⟨rfl, rfl, Nat.le_of_ble_eq_true rfl, Nat.le_of_ble_eq_true rfl⟩ rfl (Nat.le_of_ble_eq_true rfl) rfl rfl rfl ?_
      exact gl_iret (pc := 214) C dX4_count_214 (by refine Eq.symm (pa_tab_in ?_ ?_) <;> omega) (rfl)
    · skip
      refine gl_tableIn (pc := 1) (off := 214) 215 C dX4_count_1 (by decide) (by decide) (by decide) (by decide) ?_
      refine gl_aload_0 (pc := 215) C dX4_count_215 ?_
      refine gl_getR (pc := 216) C dX4_count_216 fX4_count_22 rfl rfl ?_
      refine gl_getI (pc := 219) C dX4_count_219 fX4_count_98 rfl rfl ?_
      refine gl_top hp ?_
      exact gl_iret (pc := 222) C dX4_count_222 (by refine Eq.symm (pa_tab_in ?_ ?_) <;> omega) (rfl)
set_option maxRecDepth 100000 in
set_option maxHeartbeats 4000000 in
theorem ctX4_car (F : gl_F) {n m t : Nat} {G S : Nat → Int32} (w : sp_W n m t S) (ht31 : t < 2000000) (hS : sp_ag G 0 S) (x y : Int32) : gl_Ct F LC yX4_car wsX4_car rmX4_car [.ref (gl_r F 126), .int x, .int y] G (some (.int (pa_car S n m t x y))) (G) := by
  refine gl_met (cc := cX4_car) (maxL := 3) (ret := some .int) [some (.ref (gl_r F 126)), some (.int x), some (.int y)] (plainFor_of_name (by decide)) rfl ok_LC (by simp [Value.category]) (Nat.le_of_ble_eq_true rfl) rfl (fun V hV C => ?_)
  subst hV
  obtain ⟨hn40, hm5, hn, hm, ht, hcar, hcal⟩ := id w
  have h0 := sp_ag_0 hS
  refine gl_aload_0 (pc := 0) C dX4_car_0 ?_
  refine gl_getR (pc := 1) C dX4_car_1 fX4_car_10 rfl rfl ?_
  refine gl_getR (pc := 4) C dX4_car_4 fX4_car_30 rfl rfl ?_
  refine gl_iload_1 (pc := 7) C dX4_car_7 ?_
  refine gl_callVi (pc := 8) (gl_up1r 0 (by omega) hS (ctX1_has (gl_sh V.1 (gl_eH 0)) S x)) C dX4_car_8 gX4_car_X1_has rfl hdX1_has ⟨rfl, rfl, Nat.le_of_ble_eq_true rfl, Nat.le_of_ble_eq_true rfl⟩ rfl (Nat.le_of_ble_eq_true rfl) rfl rfl rfl ?_
  refine gl_ifne (pc := 11) 16 C dX4_car_11 (by decide) (fun h11 => ?_) (fun h11 => ?_)
  · skip
    replace h11 := gl_bn.mp h11
    rw [hm] at h11
    have hok0 := h11
    obtain ⟨c, hc, rfl⟩ := sp_has_n (by omega) hok0
    have hcN : cN (nI c) = c := nI_clamp (by omega)
    have hc5 : c < 5 := by omega
    refine gl_iload_2 (pc := 16) C dX4_car_16 ?_
    rcases gl_cases y 7 (by omega) with hsw | ⟨i17, hi17, ex17⟩
    · skip
      refine gl_tableOut (pc := 17) 185 C dX4_car_17 hsw (by decide) ?_
      refine gl_iconst (pc := 185) (-1) C dX4_car_185 (by decide) ?_
      exact gl_iret (pc := 186) C dX4_car_186 (by rw [pa_car, if_pos hok0, pa_tab_out hsw]) (rfl)
    · subst ex17
      rcases (show i17 = 0 ∨ i17 = 1 ∨ i17 = 2 ∨ i17 = 3 ∨ i17 = 4 ∨ i17 = 5 ∨ i17 = 6 ∨ i17 = 7 by omega) with rfl | rfl | rfl | rfl | rfl | rfl | rfl | rfl
      · skip
        refine gl_tableIn (pc := 17) (off := 47) 64 C dX4_car_17 (by decide) (by decide) (by decide) (by decide) ?_
        refine gl_aload_0 (pc := 64) C dX4_car_64 ?_
        refine gl_getR (pc := 65) C dX4_car_65 fX4_car_10 rfl rfl ?_
        refine gl_getR (pc := 68) C dX4_car_68 fX4_car_30 rfl rfl ?_
        refine gl_getR (pc := 71) C dX4_car_71 fX4_car_75 rfl rfl ?_
        refine gl_iload_1 (pc := 74) C dX4_car_74 ?_
        refine gl_iald (pc := 75) _ C dX4_car_75 rfl rfl (by omega) ?_
        refine gl_top (h0 (iC c 3) (by first | (unfold iC; omega) | (unfold iK; omega) | omega)) ?_
        exact gl_iret (pc := 76) C dX4_car_76 (by rw [pa_car, if_pos hok0, hcN]; refine Eq.symm (pa_tab_in ?_ ?_) <;> omega) (rfl)
      · skip
        refine gl_tableIn (pc := 17) (off := 60) 77 C dX4_car_17 (by decide) (by decide) (by decide) (by decide) ?_
        refine gl_aload_0 (pc := 77) C dX4_car_77 ?_
        refine gl_getR (pc := 78) C dX4_car_78 fX4_car_10 rfl rfl ?_
        refine gl_getR (pc := 81) C dX4_car_81 fX4_car_30 rfl rfl ?_
        refine gl_getR (pc := 84) C dX4_car_84 fX4_car_55 rfl rfl ?_
        refine gl_iload_1 (pc := 87) C dX4_car_87 ?_
        refine gl_iald (pc := 88) _ C dX4_car_88 rfl rfl (by omega) ?_
        refine gl_top (h0 (iC c 4) (by first | (unfold iC; omega) | (unfold iK; omega) | omega)) ?_
        exact gl_iret (pc := 89) C dX4_car_89 (by rw [pa_car, if_pos hok0, hcN]; refine Eq.symm (pa_tab_in ?_ ?_) <;> omega) (rfl)
      · skip
        refine gl_tableIn (pc := 17) (off := 73) 90 C dX4_car_17 (by decide) (by decide) (by decide) (by decide) ?_
        refine gl_aload_0 (pc := 90) C dX4_car_90 ?_
        refine gl_getR (pc := 91) C dX4_car_91 fX4_car_10 rfl rfl ?_
        refine gl_getR (pc := 94) C dX4_car_94 fX4_car_58 rfl rfl ?_
        refine gl_iload_1 (pc := 97) C dX4_car_97 ?_
        refine gl_iconst (pc := 98) (nI 2) C dX4_car_98 (by decide) ?_
        refine gl_callVi (pc := 99) (gl_up1r 0 (by omega) hS (ctX0_numberOf (gl_sh V.1 (gl_eH 0)) hn40 hn (nI c) (nI 2))) C dX4_car_99 gX4_car_X0_numberOf rfl hdX0_numberOf ⟨rfl, rfl, Nat.le_of_ble_eq_true rfl, Nat.le_of_ble_eq_true rfl⟩ rfl (Nat.le_of_ble_eq_true rfl) rfl rfl rfl ?_
        exact gl_iret (pc := 102) C dX4_car_102 (by rw [pa_car, if_pos hok0, hcN]; refine Eq.symm (pa_tab_in ?_ ?_) <;> omega) (rfl)
      · skip
        refine gl_tableIn (pc := 17) (off := 86) 103 C dX4_car_17 (by decide) (by decide) (by decide) (by decide) ?_
        refine gl_aload_0 (pc := 103) C dX4_car_103 ?_
        refine gl_getR (pc := 104) C dX4_car_104 fX4_car_10 rfl rfl ?_
        refine gl_getR (pc := 107) C dX4_car_107 fX4_car_58 rfl rfl ?_
        refine gl_iload_1 (pc := 110) C dX4_car_110 ?_
        refine gl_iconst (pc := 111) (nI 1) C dX4_car_111 (by decide) ?_
        refine gl_callVi (pc := 112) (gl_up1r 0 (by omega) hS (ctX0_numberOf (gl_sh V.1 (gl_eH 0)) hn40 hn (nI c) (nI 1))) C dX4_car_112 gX4_car_X0_numberOf rfl hdX0_numberOf ⟨rfl, rfl, Nat.le_of_ble_eq_true rfl, Nat.le_of_ble_eq_true rfl⟩ rfl (Nat.le_of_ble_eq_true rfl) rfl rfl rfl ?_
        exact gl_iret (pc := 115) C dX4_car_115 (by rw [pa_car, if_pos hok0, hcN]; refine Eq.symm (pa_tab_in ?_ ?_) <;> omega) (rfl)
      · skip
        refine gl_tableIn (pc := 17) (off := 99) 116 C dX4_car_17 (by decide) (by decide) (by decide) (by decide) ?_
        refine gl_aload_0 (pc := 116) C dX4_car_116 ?_
        refine gl_getR (pc := 117) C dX4_car_117 fX4_car_10 rfl rfl ?_
        refine gl_getR (pc := 120) C dX4_car_120 fX4_car_58 rfl rfl ?_
        refine gl_iload_1 (pc := 123) C dX4_car_123 ?_
        refine gl_callVi (pc := 124) (gl_up1r 0 (by omega) hS (ctX0_stopsOf (gl_sh V.1 (gl_eH 0)) hn40 hn (nI c))) C dX4_car_124 gX4_car_X0_stopsOf rfl hdX0_stopsOf ⟨rfl, rfl, Nat.le_of_ble_eq_true rfl, Nat.le_of_ble_eq_true rfl⟩ rfl (Nat.le_of_ble_eq_true rfl) rfl rfl rfl ?_
        refine gl_callSi (pc := 127) (ctJ6_bitCount V.1 LC ok_LC G (sp_b16_stops n (fun k hk => ⟨(hcal k hk).1, (hcal k hk).2.1⟩))) C dX4_car_127 gX4_car_J6_bitCount_0f7a4 rfl hdJ6_bitCount_0f7a4 ⟨rfl, rfl, Nat.le_of_ble_eq_true rfl, Nat.le_of_ble_eq_true rfl⟩ rfl (Nat.le_of_ble_eq_true rfl) rfl ?_
        exact gl_iret (pc := 130) C dX4_car_130 (by rw [pa_car, if_pos hok0, hcN]; refine Eq.symm (pa_tab_in ?_ ?_) <;> omega) (rfl)
      · skip
        refine gl_tableIn (pc := 17) (off := 114) 131 C dX4_car_17 (by decide) (by decide) (by decide) (by decide) ?_
        refine gl_aload_0 (pc := 131) C dX4_car_131 ?_
        refine gl_getR (pc := 132) C dX4_car_132 fX4_car_10 rfl rfl ?_
        refine gl_getR (pc := 135) C dX4_car_135 fX4_car_58 rfl rfl ?_
        refine gl_iload_1 (pc := 138) C dX4_car_138 ?_
        refine gl_aload_0 (pc := 139) C dX4_car_139 ?_
        refine gl_getR (pc := 140) C dX4_car_140 fX4_car_10 rfl rfl ?_
        refine gl_getR (pc := 143) C dX4_car_143 fX4_car_30 rfl rfl ?_
        refine gl_getR (pc := 146) C dX4_car_146 fX4_car_75 rfl rfl ?_
        refine gl_iload_1 (pc := 149) C dX4_car_149 ?_
        refine gl_iald (pc := 150) _ C dX4_car_150 rfl rfl (by omega) ?_
        refine gl_top (h0 (iC c 3) (by first | (unfold iC; omega) | (unfold iK; omega) | omega)) ?_
        refine gl_callVi (pc := 151) (gl_up1r 0 (by omega) hS (ctX0_aimOf (gl_sh V.1 (gl_eH 0)) hn40 hn (fun k hk => (hcal k hk).2.1) (nI c) (hcar c hc).2.2.1)) C dX4_car_151 gX4_car_X0_aimOf rfl hdX0_aimOf ⟨rfl, rfl, Nat.le_of_ble_eq_true rfl, Nat.le_of_ble_eq_true rfl⟩ rfl (Nat.le_of_ble_eq_true rfl) rfl rfl rfl ?_
        exact gl_iret (pc := 154) C dX4_car_154 (by rw [pa_car, if_pos hok0, hcN]; refine Eq.symm (pa_tab_in ?_ ?_) <;> omega) (rfl)
      · skip
        refine gl_tableIn (pc := 17) (off := 138) 155 C dX4_car_17 (by decide) (by decide) (by decide) (by decide) ?_
        refine gl_aload_0 (pc := 155) C dX4_car_155 ?_
        refine gl_getR (pc := 156) C dX4_car_156 fX4_car_10 rfl rfl ?_
        refine gl_getR (pc := 159) C dX4_car_159 fX4_car_30 rfl rfl ?_
        refine gl_getR (pc := 162) C dX4_car_162 fX4_car_130 rfl rfl ?_
        refine gl_iload_1 (pc := 165) C dX4_car_165 ?_
        refine gl_iald (pc := 166) _ C dX4_car_166 rfl rfl (by omega) ?_
        refine gl_top (h0 (iC c 5) (by first | (unfold iC; omega) | (unfold iK; omega) | omega)) ?_
        exact gl_iret (pc := 167) C dX4_car_167 (by rw [pa_car, if_pos hok0, hcN]; refine Eq.symm (pa_tab_in ?_ ?_) <;> omega) (rfl)
      · skip
        refine gl_tableIn (pc := 17) (off := 151) 168 C dX4_car_17 (by decide) (by decide) (by decide) (by decide) ?_
        refine gl_aload_0 (pc := 168) C dX4_car_168 ?_
        refine gl_getR (pc := 169) C dX4_car_169 fX4_car_10 rfl rfl ?_
        refine gl_iload_1 (pc := 172) C dX4_car_172 ?_
        refine gl_callVi (pc := 173) (gl_up1r 0 (by omega) hS (ctX3_isAwake (gl_sh V.1 (gl_eH 0)) w (by omega) c)) C dX4_car_173 gX4_car_X3_isAwake rfl hdX3_isAwake ⟨rfl, rfl, Nat.le_of_ble_eq_true rfl, Nat.le_of_ble_eq_true rfl⟩ rfl (Nat.le_of_ble_eq_true rfl) rfl rfl rfl ?_
        refine gl_ifeq (pc := 176) 183 C dX4_car_176 (by decide) (fun h176 => ?_) (fun h176 => ?_)
        · skip
          replace h176 := gl_bz.mp h176
          refine gl_iconst (pc := 183) (nI 0) C dX4_car_183 (by decide) ?_
          exact gl_iret (pc := 184) C dX4_car_184 (by rw [pa_car, if_pos hok0, hcN, show pa_tab 7 (pc_car S n t c) (nI 7) = pc_car S n t c 7 from pa_tab_in (by omega) (by omega)]; simp only [pc_car]; first | rw [if_pos h176] | rw [if_neg h176]) (rfl)
        · skip
          replace h176 := gl_bn.mp h176
          refine gl_iconst (pc := 179) (nI 1) C dX4_car_179 (by decide) ?_
          refine gl_goto (pc := 180) 184 C dX4_car_180 (by decide) ?_
          exact gl_iret (pc := 184) C dX4_car_184 (by rw [pa_car, if_pos hok0, hcN, show pa_tab 7 (pc_car S n t c) (nI 7) = pc_car S n t c 7 from pa_tab_in (by omega) (by omega)]; simp only [pc_car]; first | rw [if_pos h176] | rw [if_neg h176]) (rfl)
  · skip
    replace h11 := gl_bz.mp h11
    rw [hm] at h11
    refine gl_iconst (pc := 14) (-1) C dX4_car_14 (by decide) ?_
    exact gl_iret (pc := 15) C dX4_car_15 (by rw [pa_car, if_neg h11]) (rfl)
set_option maxRecDepth 100000 in
set_option maxHeartbeats 4000000 in
theorem ctX4_caller (F : gl_F) {n m t : Nat} {G S : Nat → Int32} (w : sp_W n m t S) (ht31 : t < 2000000) (hS : sp_ag G 0 S) (x y : Int32) : gl_Ct F LC yX4_caller wsX4_caller rmX4_caller [.ref (gl_r F 126), .int x, .int y] G (some (.int (pa_caller S n x y))) (G) := by
  refine gl_met (cc := cX4_caller) (maxL := 3) (ret := some .int) [some (.ref (gl_r F 126)), some (.int x), some (.int y)] (plainFor_of_name (by decide)) rfl ok_LC (by simp [Value.category]) (Nat.le_of_ble_eq_true rfl) rfl (fun V hV C => ?_)
  subst hV
  obtain ⟨hn40, hm5, hn, hm, ht, hcar, hcal⟩ := id w
  have h0 := sp_ag_0 hS
  refine gl_aload_0 (pc := 0) C dX4_caller_0 ?_
  refine gl_getR (pc := 1) C dX4_caller_1 fX4_caller_10 rfl rfl ?_
  refine gl_getR (pc := 4) C dX4_caller_4 fX4_caller_58 rfl rfl ?_
  refine gl_iload_1 (pc := 7) C dX4_caller_7 ?_
  refine gl_callVi (pc := 8) (gl_up1r 0 (by omega) hS (ctX0_has (gl_sh V.1 (gl_eH 0)) S x)) C dX4_caller_8 gX4_caller_X0_has rfl hdX0_has ⟨rfl, rfl, Nat.le_of_ble_eq_true rfl, Nat.le_of_ble_eq_true rfl⟩ rfl (Nat.le_of_ble_eq_true rfl) rfl rfl rfl ?_
  refine gl_ifne (pc := 11) 16 C dX4_caller_11 (by decide) (fun h11 => ?_) (fun h11 => ?_)
  · skip
    replace h11 := gl_bn.mp h11
    rw [hn] at h11
    have hok0 := h11
    obtain ⟨k, hk, rfl⟩ := sp_has_n (by omega) hok0
    have hcN : cN (nI k) = k := nI_clamp (by omega)
    have hk40 : k < 40 := by omega
    refine gl_iload_2 (pc := 16) C dX4_caller_16 ?_
    rcases gl_cases y 7 (by omega) with hsw | ⟨i17, hi17, ex17⟩
    · skip
      refine gl_tableOut (pc := 17) 168 C dX4_caller_17 hsw (by decide) ?_
      refine gl_iconst (pc := 168) (-1) C dX4_caller_168 (by decide) ?_
      exact gl_iret (pc := 169) C dX4_caller_169 (by rw [pa_caller, if_neg (fun q => sp_tab_inr (N := 7) (by omega) hsw q.2)]) (rfl)
    · subst ex17
      rcases (show i17 = 0 ∨ i17 = 1 ∨ i17 = 2 ∨ i17 = 3 ∨ i17 = 4 ∨ i17 = 5 ∨ i17 = 6 ∨ i17 = 7 by omega) with rfl | rfl | rfl | rfl | rfl | rfl | rfl | rfl
      · skip
        refine gl_tableIn (pc := 17) (off := 47) 64 C dX4_caller_17 (by decide) (by decide) (by decide) (by decide) ?_
        refine gl_aload_0 (pc := 64) C dX4_caller_64 ?_
        refine gl_getR (pc := 65) C dX4_caller_65 fX4_caller_10 rfl rfl ?_
        refine gl_getR (pc := 68) C dX4_caller_68 fX4_caller_58 rfl rfl ?_
        refine gl_getR (pc := 71) C dX4_caller_71 fX4_caller_137 rfl rfl ?_
        refine gl_iload_1 (pc := 74) C dX4_caller_74 ?_
        refine gl_iald (pc := 75) _ C dX4_caller_75 rfl rfl (by omega) ?_
        refine gl_top (h0 (iK k 0) (by first | (unfold iC; omega) | (unfold iK; omega) | omega)) ?_
        exact gl_iret (pc := 76) C dX4_caller_76 (by rw [pa_caller, if_pos ⟨hok0, sp_inr_lit (by omega) (by omega)⟩, hcN]; rfl) (rfl)
      · skip
        refine gl_tableIn (pc := 17) (off := 60) 77 C dX4_caller_17 (by decide) (by decide) (by decide) (by decide) ?_
        refine gl_aload_0 (pc := 77) C dX4_caller_77 ?_
        refine gl_getR (pc := 78) C dX4_caller_78 fX4_caller_10 rfl rfl ?_
        refine gl_getR (pc := 81) C dX4_caller_81 fX4_caller_58 rfl rfl ?_
        refine gl_getR (pc := 84) C dX4_caller_84 fX4_caller_138 rfl rfl ?_
        refine gl_iload_1 (pc := 87) C dX4_caller_87 ?_
        refine gl_iald (pc := 88) _ C dX4_caller_88 rfl rfl (by omega) ?_
        refine gl_top (h0 (iK k 1) (by first | (unfold iC; omega) | (unfold iK; omega) | omega)) ?_
        exact gl_iret (pc := 89) C dX4_caller_89 (by rw [pa_caller, if_pos ⟨hok0, sp_inr_lit (by omega) (by omega)⟩, hcN]; rfl) (rfl)
      · skip
        refine gl_tableIn (pc := 17) (off := 73) 90 C dX4_caller_17 (by decide) (by decide) (by decide) (by decide) ?_
        refine gl_aload_0 (pc := 90) C dX4_caller_90 ?_
        refine gl_getR (pc := 91) C dX4_caller_91 fX4_caller_10 rfl rfl ?_
        refine gl_getR (pc := 94) C dX4_caller_94 fX4_caller_58 rfl rfl ?_
        refine gl_getR (pc := 97) C dX4_caller_97 fX4_caller_141 rfl rfl ?_
        refine gl_iload_1 (pc := 100) C dX4_caller_100 ?_
        refine gl_iald (pc := 101) _ C dX4_caller_101 rfl rfl (by omega) ?_
        refine gl_top (h0 (iK k 2) (by first | (unfold iC; omega) | (unfold iK; omega) | omega)) ?_
        exact gl_iret (pc := 102) C dX4_caller_102 (by rw [pa_caller, if_pos ⟨hok0, sp_inr_lit (by omega) (by omega)⟩, hcN]; rfl) (rfl)
      · skip
        refine gl_tableIn (pc := 17) (off := 86) 103 C dX4_caller_17 (by decide) (by decide) (by decide) (by decide) ?_
        refine gl_aload_0 (pc := 103) C dX4_caller_103 ?_
        refine gl_getR (pc := 104) C dX4_caller_104 fX4_caller_10 rfl rfl ?_
        refine gl_getR (pc := 107) C dX4_caller_107 fX4_caller_58 rfl rfl ?_
        refine gl_getR (pc := 110) C dX4_caller_110 fX4_caller_144 rfl rfl ?_
        refine gl_iload_1 (pc := 113) C dX4_caller_113 ?_
        refine gl_iald (pc := 114) _ C dX4_caller_114 rfl rfl (by omega) ?_
        refine gl_top (h0 (iK k 3) (by first | (unfold iC; omega) | (unfold iK; omega) | omega)) ?_
        exact gl_iret (pc := 115) C dX4_caller_115 (by rw [pa_caller, if_pos ⟨hok0, sp_inr_lit (by omega) (by omega)⟩, hcN]; rfl) (rfl)
      · skip
        refine gl_tableIn (pc := 17) (off := 99) 116 C dX4_caller_17 (by decide) (by decide) (by decide) (by decide) ?_
        refine gl_aload_0 (pc := 116) C dX4_caller_116 ?_
        refine gl_getR (pc := 117) C dX4_caller_117 fX4_caller_10 rfl rfl ?_
        refine gl_getR (pc := 120) C dX4_caller_120 fX4_caller_58 rfl rfl ?_
        refine gl_getR (pc := 123) C dX4_caller_123 fX4_caller_147 rfl rfl ?_
        refine gl_iload_1 (pc := 126) C dX4_caller_126 ?_
        refine gl_iald (pc := 127) _ C dX4_caller_127 rfl rfl (by omega) ?_
        refine gl_top (h0 (iK k 4) (by first | (unfold iC; omega) | (unfold iK; omega) | omega)) ?_
        exact gl_iret (pc := 128) C dX4_caller_128 (by rw [pa_caller, if_pos ⟨hok0, sp_inr_lit (by omega) (by omega)⟩, hcN]; rfl) (rfl)
      · skip
        refine gl_tableIn (pc := 17) (off := 112) 129 C dX4_caller_17 (by decide) (by decide) (by decide) (by decide) ?_
        refine gl_aload_0 (pc := 129) C dX4_caller_129 ?_
        refine gl_getR (pc := 130) C dX4_caller_130 fX4_caller_10 rfl rfl ?_
        refine gl_getR (pc := 133) C dX4_caller_133 fX4_caller_58 rfl rfl ?_
        refine gl_getR (pc := 136) C dX4_caller_136 fX4_caller_150 rfl rfl ?_
        refine gl_iload_1 (pc := 139) C dX4_caller_139 ?_
        refine gl_iald (pc := 140) _ C dX4_caller_140 rfl rfl (by omega) ?_
        refine gl_top (h0 (iK k 5) (by first | (unfold iC; omega) | (unfold iK; omega) | omega)) ?_
        exact gl_iret (pc := 141) C dX4_caller_141 (by rw [pa_caller, if_pos ⟨hok0, sp_inr_lit (by omega) (by omega)⟩, hcN]; rfl) (rfl)
      · skip
        refine gl_tableIn (pc := 17) (off := 125) 142 C dX4_caller_17 (by decide) (by decide) (by decide) (by decide) ?_
        refine gl_aload_0 (pc := 142) C dX4_caller_142 ?_
        refine gl_getR (pc := 143) C dX4_caller_143 fX4_caller_10 rfl rfl ?_
        refine gl_getR (pc := 146) C dX4_caller_146 fX4_caller_58 rfl rfl ?_
        refine gl_getR (pc := 149) C dX4_caller_149 fX4_caller_153 rfl rfl ?_
        refine gl_iload_1 (pc := 152) C dX4_caller_152 ?_
        refine gl_iald (pc := 153) _ C dX4_caller_153 rfl rfl (by omega) ?_
        refine gl_top (h0 (iK k 6) (by first | (unfold iC; omega) | (unfold iK; omega) | omega)) ?_
        exact gl_iret (pc := 154) C dX4_caller_154 (by rw [pa_caller, if_pos ⟨hok0, sp_inr_lit (by omega) (by omega)⟩, hcN]; rfl) (rfl)
      · skip
        refine gl_tableIn (pc := 17) (off := 138) 155 C dX4_caller_17 (by decide) (by decide) (by decide) (by decide) ?_
        refine gl_aload_0 (pc := 155) C dX4_caller_155 ?_
        refine gl_getR (pc := 156) C dX4_caller_156 fX4_caller_10 rfl rfl ?_
        refine gl_getR (pc := 159) C dX4_caller_159 fX4_caller_58 rfl rfl ?_
        refine gl_getR (pc := 162) C dX4_caller_162 fX4_caller_156 rfl rfl ?_
        refine gl_iload_1 (pc := 165) C dX4_caller_165 ?_
        refine gl_iald (pc := 166) _ C dX4_caller_166 rfl rfl (by omega) ?_
        refine gl_top (h0 (iK k 7) (by first | (unfold iC; omega) | (unfold iK; omega) | omega)) ?_
        exact gl_iret (pc := 167) C dX4_caller_167 (by rw [pa_caller, if_pos ⟨hok0, sp_inr_lit (by omega) (by omega)⟩, hcN]; rfl) (rfl)
  · skip
    replace h11 := gl_bz.mp h11
    rw [hn] at h11
    refine gl_iconst (pc := 14) (-1) C dX4_caller_14 (by decide) ?_
    exact gl_iret (pc := 15) C dX4_caller_15 (by rw [pa_caller, if_neg (fun q => h11 q.1)]) (rfl)
set_option maxRecDepth 100000 in
set_option maxHeartbeats 4000000 in
theorem ctX4_group (F : gl_F) {n m t : Nat} {G S : Nat → Int32} (w : sp_W n m t S) (ht31 : t < 2000000) (hS : sp_ag G 0 S) (i y : Int32) : gl_Ct F LC yX4_group wsX4_group rmX4_group [.ref (gl_r F 126), .int i, .int y] G (some (.int (pa_group S n i y))) (G) := by
  refine gl_met (cc := cX4_group) (maxL := 4) (ret := some .int) [some (.ref (gl_r F 126)), some (.int i), some (.int y), none] (plainFor_of_name (by decide)) rfl ok_LC (by simp [Value.category]) (Nat.le_of_ble_eq_true rfl) rfl (fun V hV C => ?_)
  subst hV
  obtain ⟨hn40, hm5, hn, hm, ht, hcar, hcal⟩ := id w
  have h0 := sp_ag_0 hS
  refine gl_iload_1 (pc := 0) C dX4_group_0 ?_
  refine gl_iflt (pc := 1) 13 C dX4_group_1 (by decide) (fun h1 => ?_) (fun h1 => ?_)
  · skip
    have hno : ¬ (¬ i < 0 ∧ sp_inr y (nI 0) (nI 3)) := fun q => q.1 h1
    refine gl_iconst (pc := 13) (-1) C dX4_group_13 (by decide) ?_
    exact gl_iret (pc := 14) C dX4_group_14 (by rw [pa_group, if_neg hno]) (rfl)
  · skip
    refine gl_iload_2 (pc := 4) C dX4_group_4 ?_
    refine gl_iflt (pc := 5) 13 C dX4_group_5 (by decide) (fun h5 => ?_) (fun h5 => ?_)
    · skip
      have hno : ¬ (¬ i < 0 ∧ sp_inr y (nI 0) (nI 3)) := fun q => ((sp_in0 y 3).mpr q.2).1 h5
      refine gl_iconst (pc := 13) (-1) C dX4_group_13 (by decide) ?_
      exact gl_iret (pc := 14) C dX4_group_14 (by rw [pa_group, if_neg hno]) (rfl)
    · skip
      refine gl_iload_2 (pc := 8) C dX4_group_8 ?_
      refine gl_iconst (pc := 9) (nI 3) C dX4_group_9 (by decide) ?_
      refine gl_icmp_le (pc := 10) 15 C dX4_group_10 (by decide) (fun h10 => ?_) (fun h10 => ?_)
      · skip
        have hok := And.intro h1 ((sp_in0 y 3).mp ⟨h5, h10⟩)
        refine gl_aload_0 (pc := 15) C dX4_group_15 ?_
        refine gl_getR (pc := 16) C dX4_group_16 fX4_group_10 rfl rfl ?_
        refine gl_getR (pc := 19) C dX4_group_19 fX4_group_58 rfl rfl ?_
        refine gl_iload_1 (pc := 22) C dX4_group_22 ?_
        refine gl_callVi (pc := 23) (gl_up1r 0 (by omega) hS (ctX0_firstOfGroup (gl_sh V.1 (gl_eH 0)) hn40 hn i)) C dX4_group_23 gX4_group_X0_firstOfGroup rfl hdX0_firstOfGroup ⟨rfl, rfl, Nat.le_of_ble_eq_true rfl, Nat.le_of_ble_eq_true rfl⟩ rfl (Nat.le_of_ble_eq_true rfl) rfl rfl rfl ?_
        refine gl_istore_3 (pc := 26) C dX4_group_26 ?_
        refine gl_aload_0 (pc := 27) C dX4_group_27 ?_
        refine gl_getR (pc := 28) C dX4_group_28 fX4_group_10 rfl rfl ?_
        refine gl_getR (pc := 31) C dX4_group_31 fX4_group_58 rfl rfl ?_
        refine gl_iload_3 (pc := 34) C dX4_group_34 ?_
        refine gl_callVi (pc := 35) (gl_up1r 0 (by omega) hS (ctX0_has (gl_sh V.1 (gl_eH 0)) S (sp_fog S i n))) C dX4_group_35 gX4_group_X0_has rfl hdX0_has ⟨rfl, rfl, Nat.le_of_ble_eq_true rfl, Nat.le_of_ble_eq_true rfl⟩ rfl (Nat.le_of_ble_eq_true rfl) rfl rfl rfl ?_
        refine gl_ifne (pc := 38) 44 C dX4_group_38 (by decide) (fun h38 => ?_) (fun h38 => ?_)
        · skip
          replace h38 := gl_bn.mp h38
          rw [hn] at h38
          obtain ⟨f, hf, ef⟩ := sp_has_n (by omega) h38
          have hfN : cN (sp_fog S i n) = f := by rw [ef]; exact nI_clamp (by omega)
          have hf9 : ¬ sp_fog S i n = -9 := by rw [ef]; intro q; have := congrArg Int32.toInt q; rw [nI_toInt (by omega), show (-9 : Int32).toInt = -9 by decide] at this; omega
          have hf40 : f < 40 := by omega
          refine gl_on (L1 := [some (.ref (gl_r V.1 126)), some (.int i), some (.int y), some (.int (nI f))]) ?_ (gl_le_c rfl (gl_le_c rfl (gl_le_c rfl (gl_le_c (congrArg Value.int ef) gl_le_n)))) rfl
          refine gl_iload_2 (pc := 44) C dX4_group_44 ?_
          rcases gl_cases y 3 (by omega) with hsw | ⟨i45, hi45, ex45⟩
          · skip
            exact absurd hok.2 (sp_tab_inr (N := 3) (by omega) hsw)
          · subst ex45
            rcases (show i45 = 0 ∨ i45 = 1 ∨ i45 = 2 ∨ i45 = 3 by omega) with rfl | rfl | rfl | rfl
            · skip
              refine gl_tableIn (pc := 45) (off := 27) 72 C dX4_group_45 (by decide) (by decide) (by decide) (by decide) ?_
              refine gl_aload_0 (pc := 72) C dX4_group_72 ?_
              refine gl_getR (pc := 73) C dX4_group_73 fX4_group_10 rfl rfl ?_
              refine gl_getR (pc := 76) C dX4_group_76 fX4_group_58 rfl rfl ?_
              refine gl_getR (pc := 79) C dX4_group_79 fX4_group_137 rfl rfl ?_
              refine gl_iload_3 (pc := 82) C dX4_group_82 ?_
              refine gl_iald (pc := 83) _ C dX4_group_83 rfl rfl (by omega) ?_
              refine gl_top (h0 (iK f 0) (by first | (unfold iC; omega) | (unfold iK; omega) | omega)) ?_
              exact gl_iret (pc := 84) C dX4_group_84 (by rw [pa_group, if_pos hok, if_neg (fun q => q.elim hf9 (by decide)), if_neg (by decide), hfN]; rfl) (rfl)
            · skip
              refine gl_tableIn (pc := 45) (off := 40) 85 C dX4_group_45 (by decide) (by decide) (by decide) (by decide) ?_
              refine gl_aload_0 (pc := 85) C dX4_group_85 ?_
              refine gl_getR (pc := 86) C dX4_group_86 fX4_group_10 rfl rfl ?_
              refine gl_getR (pc := 89) C dX4_group_89 fX4_group_58 rfl rfl ?_
              refine gl_getR (pc := 92) C dX4_group_92 fX4_group_138 rfl rfl ?_
              refine gl_iload_3 (pc := 95) C dX4_group_95 ?_
              refine gl_iald (pc := 96) _ C dX4_group_96 rfl rfl (by omega) ?_
              refine gl_top (h0 (iK f 1) (by first | (unfold iC; omega) | (unfold iK; omega) | omega)) ?_
              exact gl_iret (pc := 97) C dX4_group_97 (by rw [pa_group, if_pos hok, if_neg (fun q => q.elim hf9 (by decide)), if_neg (by decide), hfN]; rfl) (rfl)
            · skip
              refine gl_tableIn (pc := 45) (off := 53) 98 C dX4_group_45 (by decide) (by decide) (by decide) (by decide) ?_
              refine gl_aload_0 (pc := 98) C dX4_group_98 ?_
              refine gl_getR (pc := 99) C dX4_group_99 fX4_group_10 rfl rfl ?_
              refine gl_getR (pc := 102) C dX4_group_102 fX4_group_58 rfl rfl ?_
              refine gl_iload_3 (pc := 105) C dX4_group_105 ?_
              refine gl_callVi (pc := 106) (gl_up1r 0 (by omega) hS (ctX0_sizeOfGroup (gl_sh V.1 (gl_eH 0)) hn40 hn f hf40)) C dX4_group_106 gX4_group_X0_sizeOfGroup rfl hdX0_sizeOfGroup ⟨rfl, rfl, Nat.le_of_ble_eq_true rfl, Nat.le_of_ble_eq_true rfl⟩ rfl (Nat.le_of_ble_eq_true rfl) rfl rfl rfl ?_
              exact gl_iret (pc := 109) C dX4_group_109 (by rw [pa_group, if_pos hok, if_neg (fun q => q.elim hf9 (by decide)), if_pos rfl, hfN]) (rfl)
            · skip
              refine gl_tableOut (pc := 45) 110 C dX4_group_45 (Or.inr (by decide)) (by decide) ?_
              refine gl_iload_3 (pc := 110) C dX4_group_110 ?_
              exact gl_iret (pc := 111) C dX4_group_111 (by rw [pa_group, if_pos hok, if_pos (Or.inr rfl)]; exact ef.symm) (rfl)
        · skip
          replace h38 := gl_bz.mp h38
          rw [hn] at h38
          have hf9 : sp_fog S i n = -9 := (sp_fog_in n).elim id (fun ⟨f, hf, _, ef⟩ => absurd ⟨by rw [ef]; exact nI_pos (by omega), by rw [ef]; exact nI_ge hf (by omega)⟩ h38)
          refine gl_bipush (pc := 41) (-9) C dX4_group_41 (by decide +kernel) ?_
          exact gl_iret (pc := 43) C dX4_group_43 (by rw [pa_group, if_pos hok, if_pos (Or.inl hf9)]; exact hf9.symm) (rfl)
      · skip
        have hno : ¬ (¬ i < 0 ∧ sp_inr y (nI 0) (nI 3)) := fun q => h10 ((sp_in0 y 3).mpr q.2).2
        refine gl_iconst (pc := 13) (-1) C dX4_group_13 (by decide) ?_
        exact gl_iret (pc := 14) C dX4_group_14 (by rw [pa_group, if_neg hno]) (rfl)
set_option maxRecDepth 100000 in
set_option maxHeartbeats 4000000 in
theorem ctX4_cost (F : gl_F) {n m t : Nat} {G S : Nat → Int32} (w : sp_W n m t S) (ht31 : t < 2000000) (hS : sp_ag G 0 S) (x f g : Int32) : gl_Ct F LC yX4_cost wsX4_cost rmX4_cost [.ref (gl_r F 126), .int x, .int f, .int g] G (some (.int (pa_cost S n m t x f g))) (G) := by
  refine gl_met (cc := cX4_cost) (maxL := 4) (ret := some .int) [some (.ref (gl_r F 126)), some (.int x), some (.int f), some (.int g)] (plainFor_of_name (by decide)) rfl ok_LC (by simp [Value.category]) (Nat.le_of_ble_eq_true rfl) rfl (fun V hV C => ?_)
  subst hV
  obtain ⟨hn40, hm5, hn, hm, ht, hcar, hcal⟩ := id w
  have h0 := sp_ag_0 hS
  refine gl_aload_0 (pc := 0) C dX4_cost_0 ?_
  refine gl_getR (pc := 1) C dX4_cost_1 fX4_cost_10 rfl rfl ?_
  refine gl_getR (pc := 4) C dX4_cost_4 fX4_cost_30 rfl rfl ?_
  refine gl_iload_1 (pc := 7) C dX4_cost_7 ?_
  refine gl_callVi (pc := 8) (gl_up1r 0 (by omega) hS (ctX1_has (gl_sh V.1 (gl_eH 0)) S x)) C dX4_cost_8 gX4_cost_X1_has rfl hdX1_has ⟨rfl, rfl, Nat.le_of_ble_eq_true rfl, Nat.le_of_ble_eq_true rfl⟩ rfl (Nat.le_of_ble_eq_true rfl) rfl rfl rfl ?_
  refine gl_ifeq (pc := 11) 22 C dX4_cost_11 (by decide) (fun h11 => ?_) (fun h11 => ?_)
  · skip
    replace h11 := gl_bz.mp h11
    rw [hm] at h11
    have hno : ¬ (sp_has x (nI m) ∧ sp_way f g) := fun q => h11 q.1
    refine gl_iconst (pc := 22) (-1) C dX4_cost_22 (by decide) ?_
    exact gl_iret (pc := 23) C dX4_cost_23 (by rw [pa_cost, if_neg hno]) (rfl)
  · skip
    replace h11 := gl_bn.mp h11
    rw [hm] at h11
    refine gl_iload_2 (pc := 14) C dX4_cost_14 ?_
    refine gl_iload_3 (pc := 15) C dX4_cost_15 ?_
    refine gl_callSi (pc := 16) (ctX4_isWay V.1 G f g) C dX4_cost_16 gX4_cost_X4_isWay rfl hdX4_isWay ⟨rfl, rfl, Nat.le_of_ble_eq_true rfl, Nat.le_of_ble_eq_true rfl⟩ rfl (Nat.le_of_ble_eq_true rfl) rfl ?_
    refine gl_ifne (pc := 19) 24 C dX4_cost_19 (by decide) (fun h19 => ?_) (fun h19 => ?_)
    · skip
      replace h19 := gl_bn.mp h19
      have hok := And.intro h11 h19
      have hok0 := h11
      obtain ⟨c, hc, rfl⟩ := sp_has_n (by omega) hok0
      have hcN : cN (nI c) = c := nI_clamp (by omega)
      have hc5 : c < 5 := by omega
      refine gl_aload_0 (pc := 24) C dX4_cost_24 ?_
      refine gl_getR (pc := 25) C dX4_cost_25 fX4_cost_10 rfl rfl ?_
      refine gl_iload_1 (pc := 28) C dX4_cost_28 ?_
      refine gl_iload_2 (pc := 29) C dX4_cost_29 ?_
      refine gl_iload_3 (pc := 30) C dX4_cost_30 ?_
      refine gl_callVi (pc := 31) (gl_up1r 0 (by omega) hS (ctX3_canBeGiven (gl_sh V.1 (gl_eH 0)) w (by omega) hc5 f g)) C dX4_cost_31 gX4_cost_X3_canBeGiven rfl hdX3_canBeGiven ⟨rfl, rfl, Nat.le_of_ble_eq_true rfl, Nat.le_of_ble_eq_true rfl⟩ rfl (Nat.le_of_ble_eq_true rfl) rfl rfl rfl ?_
      refine gl_ifeq (pc := 34) 50 C dX4_cost_34 (by decide) (fun h34 => ?_) (fun h34 => ?_)
      · skip
        replace h34 := gl_bz.mp h34
        refine gl_bipush (pc := 50) (-9) C dX4_cost_50 (by decide +kernel) ?_
        exact gl_iret (pc := 52) C dX4_cost_52 (by rw [pa_cost, if_pos hok, hcN, if_neg h34]) (rfl)
      · skip
        replace h34 := gl_bn.mp h34
        refine gl_aload_0 (pc := 37) C dX4_cost_37 ?_
        refine gl_getR (pc := 38) C dX4_cost_38 fX4_cost_10 rfl rfl ?_
        refine gl_iload_1 (pc := 41) C dX4_cost_41 ?_
        refine gl_iload_2 (pc := 42) C dX4_cost_42 ?_
        refine gl_iload_3 (pc := 43) C dX4_cost_43 ?_
        refine gl_callVi (pc := 44) (gl_up1r 0 (by omega) hS (ctX3_costOf (gl_sh V.1 (gl_eH 0)) w hc (sp_isf_fl h19.1) (sp_isf_fl h19.2.1))) C dX4_cost_44 gX4_cost_X3_costOf rfl hdX3_costOf ⟨rfl, rfl, Nat.le_of_ble_eq_true rfl, Nat.le_of_ble_eq_true rfl⟩ rfl (Nat.le_of_ble_eq_true rfl) rfl rfl rfl ?_
        refine gl_goto (pc := 47) 52 C dX4_cost_47 (by decide) ?_
        exact gl_iret (pc := 52) C dX4_cost_52 (by rw [pa_cost, if_pos hok, hcN, if_pos h34]) (rfl)
    · skip
      replace h19 := gl_bz.mp h19
      have hno : ¬ (sp_has x (nI m) ∧ sp_way f g) := fun q => h19 q.2
      refine gl_iconst (pc := 22) (-1) C dX4_cost_22 (by decide) ?_
      exact gl_iret (pc := 23) C dX4_cost_23 (by rw [pa_cost, if_neg hno]) (rfl)
set_option maxRecDepth 100000 in
set_option maxHeartbeats 4000000 in
theorem ctX4_would (F : gl_F) {n m t : Nat} {G S : Nat → Int32} (w : sp_W n m t S) (ht31 : t < 2000000) (hS : sp_ag G 0 S) (f g : Int32) : gl_Ct F LC yX4_would wsX4_would rmX4_would [.ref (gl_r F 126), .int f, .int g] G (some (.int (pa_would S n m t f g))) (G) := by
  refine gl_met (cc := cX4_would) (maxL := 3) (ret := some .int) [some (.ref (gl_r F 126)), some (.int f), some (.int g)] (plainFor_of_name (by decide)) rfl ok_LC (by simp [Value.category]) (Nat.le_of_ble_eq_true rfl) rfl (fun V hV C => ?_)
  subst hV
  obtain ⟨hn40, hm5, hn, hm, ht, hcar, hcal⟩ := id w
  have h0 := sp_ag_0 hS
  refine gl_iload_1 (pc := 0) C dX4_would_0 ?_
  refine gl_iload_2 (pc := 1) C dX4_would_1 ?_
  refine gl_callSi (pc := 2) (ctX4_isWay V.1 G f g) C dX4_would_2 gX4_would_X4_isWay rfl hdX4_isWay ⟨rfl, rfl, Nat.le_of_ble_eq_true rfl, Nat.le_of_ble_eq_true rfl⟩ rfl (Nat.le_of_ble_eq_true rfl) rfl ?_
  refine gl_ifeq (pc := 5) 20 C dX4_would_5 (by decide) (fun h5 => ?_) (fun h5 => ?_)
  · skip
    replace h5 := gl_bz.mp h5
    refine gl_iconst (pc := 20) (-1) C dX4_would_20 (by decide) ?_
    exact gl_iret (pc := 21) C dX4_would_21 (by rw [pa_would, if_neg h5]) (rfl)
  · skip
    replace h5 := gl_bn.mp h5
    refine gl_aload_0 (pc := 8) C dX4_would_8 ?_
    refine gl_getR (pc := 9) C dX4_would_9 fX4_would_10 rfl rfl ?_
    refine gl_iload_1 (pc := 12) C dX4_would_12 ?_
    refine gl_iload_2 (pc := 13) C dX4_would_13 ?_
    refine gl_callVi (pc := 14) (gl_up1r 0 (by omega) hS (ctX3_bestCar (gl_sh V.1 (gl_eH 0)) w (by omega) (sp_isf_fl h5.1) (sp_isf_fl h5.2.1))) C dX4_would_14 gX4_would_X3_bestCar rfl hdX3_bestCar ⟨rfl, rfl, Nat.le_of_ble_eq_true rfl, Nat.le_of_ble_eq_true rfl⟩ rfl (Nat.le_of_ble_eq_true rfl) rfl rfl rfl ?_
    refine gl_goto (pc := 17) 21 C dX4_would_17 (by decide) ?_
    exact gl_iret (pc := 21) C dX4_would_21 (by rw [pa_would, if_pos h5]) (rfl)
set_option maxRecDepth 100000 in
set_option maxHeartbeats 4000000 in
theorem ctX4_thereIn (F : gl_F) {n m t : Nat} {G S : Nat → Int32} (w : sp_W n m t S) (ht31 : t < 2000000) (hS : sp_ag G 0 S) (x : Int32) : gl_Ct F LC yX4_thereIn wsX4_thereIn rmX4_thereIn [.ref (gl_r F 126), .int x] G (some (.int (pa_there S n m t x))) (if sp_has x (nI n) then sp_blk G 1 (sp_run S t n m (sp_thJ S t n m (cN x))) else G) := by
  refine gl_met (cc := cX4_thereIn) (maxL := 3) (ret := some .int) [some (.ref (gl_r F 126)), some (.int x), none] (plainFor_of_name (by decide)) rfl ok_LC (by simp [Value.category]) (Nat.le_of_ble_eq_true rfl) rfl (fun V hV C => ?_)
  subst hV
  obtain ⟨hn40, hm5, hn, hm, ht, hcar, hcal⟩ := id w
  have h0 := sp_ag_0 hS
  refine gl_aload_0 (pc := 0) C dX4_thereIn_0 ?_
  refine gl_getR (pc := 1) C dX4_thereIn_1 fX4_thereIn_10 rfl rfl ?_
  refine gl_getR (pc := 4) C dX4_thereIn_4 fX4_thereIn_58 rfl rfl ?_
  refine gl_iload_1 (pc := 7) C dX4_thereIn_7 ?_
  refine gl_callVi (pc := 8) (gl_up1r 0 (by omega) hS (ctX0_has (gl_sh V.1 (gl_eH 0)) S x)) C dX4_thereIn_8 gX4_thereIn_X0_has rfl hdX0_has ⟨rfl, rfl, Nat.le_of_ble_eq_true rfl, Nat.le_of_ble_eq_true rfl⟩ rfl (Nat.le_of_ble_eq_true rfl) rfl rfl rfl ?_
  refine gl_ifne (pc := 11) 16 C dX4_thereIn_11 (by decide) (fun h11 => ?_) (fun h11 => ?_)
  · skip
    replace h11 := gl_bn.mp h11
    rw [hn] at h11
    have hok0 := h11
    obtain ⟨k, hk, rfl⟩ := sp_has_n (by omega) hok0
    have hcN : cN (nI k) = k := nI_clamp (by omega)
    have hk40 : k < 40 := by omega
    refine gl_aload_0 (pc := 16) C dX4_thereIn_16 ?_
    refine gl_getR (pc := 17) C dX4_thereIn_17 fX4_thereIn_16 rfl rfl ?_
    refine gl_aload_0 (pc := 20) C dX4_thereIn_20 ?_
    refine gl_getR (pc := 21) C dX4_thereIn_21 fX4_thereIn_10 rfl rfl ?_
    refine gl_callVv (pc := 24) (gl_up2 (F := V.1) 1 0 (by omega) (by omega) (by omega) (ctX3_copyFrom (gl_sh V.1 (gl_e2 1 0)) _)) C dX4_thereIn_24 gX4_thereIn_X3_copyFrom rfl hdX3_copyFrom ⟨rfl, rfl, Nat.le_of_ble_eq_true rfl, Nat.le_of_ble_eq_true rfl⟩ rfl (Nat.le_of_ble_eq_true rfl) rfl rfl rfl ?_
    refine gl_mem (sp_blk_congr (T := S) (fun i hi => hS i hi)) ?_
    refine gl_iconst (pc := 27) (nI 0) C dX4_thereIn_27 (by decide) ?_
    refine gl_istore_2 (pc := 28) C dX4_thereIn_28 ?_
    refine gl_loop (pc := 29) (n := 401) (fun j => [some (.ref (gl_r V.1 126)), some (.int (nI k)), some (.int (nI j))]) (fun j => (sp_blk G 1 (sp_run S t n m j))) (fun j => sp_thJ S t n m k = sp_fst (sp_thP S t n m k) j (401 - j)) 0 (Nat.zero_le _) (rfl) (gl_le_c (rfl) (gl_le_c (rfl) (gl_le_c (rfl) (gl_le_n)))) (rfl) (fun hI => ?_) (fun j hj hI ih => ?_)
    · skip
      have eJ : sp_thJ S t n m k = 401 := by rw [hI, sp_fst_end]
      refine gl_iload_2 (pc := 29) C dX4_thereIn_29 ?_
      refine gl_sipush (pc := 30) (nI 400) C dX4_thereIn_30 (by decide +kernel) ?_
      refine gl_icmp_gt (pc := 33) 67 C dX4_thereIn_33 (by decide) (fun h33 => ?_) (fun h33 => absurd h33 (not_not_intro (nI_lt (by omega) (by omega))))
      refine gl_bipush (pc := 67) (-9) C dX4_thereIn_67 (by decide +kernel) ?_
      exact gl_iret (pc := 69) C dX4_thereIn_69 (by rw [pa_there, if_pos hok0, hcN, if_neg (by omega)]) (by rw [if_pos hok0, hcN, eJ])
    · skip
      have wj := sp_run_W w j
      refine gl_iload_2 (pc := 29) C dX4_thereIn_29 ?_
      refine gl_sipush (pc := 30) (nI 400) C dX4_thereIn_30 (by decide +kernel) ?_
      refine gl_icmp_gt (pc := 33) 67 C dX4_thereIn_33 (by decide) (fun h33 => absurd h33 (nI_nlt (by omega) (by omega))) (fun h33 => ?_)
      refine gl_aload_0 (pc := 36) C dX4_thereIn_36 ?_
      refine gl_getR (pc := 37) C dX4_thereIn_37 fX4_thereIn_16 rfl rfl ?_
      refine gl_getR (pc := 40) C dX4_thereIn_40 fX4_thereIn_58 rfl rfl ?_
      refine gl_getR (pc := 43) C dX4_thereIn_43 fX4_thereIn_141 rfl rfl ?_
      refine gl_iload_1 (pc := 46) C dX4_thereIn_46 ?_
      refine gl_iald (pc := 47) _ C dX4_thereIn_47 rfl rfl (by omega) ?_
      refine gl_top (sp_blk_in (h := 1) (i := iK k 2) (by unfold iK; omega)) ?_
      refine gl_iconst (pc := 48) (nI 3) C dX4_thereIn_48 (by decide) ?_
      refine gl_icmp_ne (pc := 49) 54 C dX4_thereIn_49 (by decide) (fun h49 => ?_) (fun h49 => ?_)
      · skip
        refine gl_aload_0 (pc := 54) C dX4_thereIn_54 ?_
        refine gl_getR (pc := 55) C dX4_thereIn_55 fX4_thereIn_16 rfl rfl ?_
        refine gl_callVv (pc := 58) (gl_up1 1 (by omega) sp_blk_ag (ctX3_oneTick (gl_sh V.1 (gl_eH 1)) wj (by omega))) C dX4_thereIn_58 gX4_thereIn_X3_oneTick rfl hdX3_oneTick ⟨rfl, rfl, Nat.le_of_ble_eq_true rfl, Nat.le_of_ble_eq_true rfl⟩ rfl (Nat.le_of_ble_eq_true rfl) rfl rfl rfl ?_
        first | with_reducible refine gl_iincN_2 (pc := 61) gl_i1 C dX4_thereIn_61 ?_ | refine gl_iinc_2 (pc := 61) C dX4_thereIn_61 (gl_inc1 _) ?_
        refine gl_goto (pc := 64) 29 C dX4_thereIn_64 (by decide) ?_
        exact gl_on (ih (hI.trans (sp_fst_no hj (by simp only [decide_eq_true_eq]; exact h49)))) (gl_le_c (rfl) (gl_le_c (rfl) (gl_le_c (rfl) (gl_le_n)))) (sp_blk_blk)
      · skip
        have eJ : sp_thJ S t n m k = j := hI.trans (sp_fst_at hj (by simp only [decide_eq_true_eq]; exact h49))
        refine gl_iload_2 (pc := 52) C dX4_thereIn_52 ?_
        exact gl_iret (pc := 53) C dX4_thereIn_53 (by rw [pa_there, if_pos hok0, hcN, if_pos (by omega), eJ]) (by rw [if_pos hok0, hcN, eJ])
  · skip
    replace h11 := gl_bz.mp h11
    rw [hn] at h11
    refine gl_iconst (pc := 14) (-1) C dX4_thereIn_14 (by decide) ?_
    exact gl_iret (pc := 15) C dX4_thereIn_15 (by rw [pa_there, if_neg h11]) ((if_neg h11).symm)
set_option maxRecDepth 100000 in
set_option maxHeartbeats 4000000 in
theorem ctX4_allThereInWithout (F : gl_F) {n m t : Nat} {G S : Nat → Int32} (w : sp_W n m t S) (ht31 : t < 2000000) (hS : sp_ag G 0 S) (c : Nat) (hc : c < m) : gl_Ct F LC yX4_allThereInWithout wsX4_allThereInWithout rmX4_allThereInWithout [.ref (gl_r F 126), .int (nI c)] G (some (.int (nI (sp_alJ (sp_fail S c t n) t n m)))) (sp_blk G 1 (sp_run (sp_fail S c t n) t n m (sp_alJ (sp_fail S c t n) t n m))) := by
  refine gl_met (cc := cX4_allThereInWithout) (maxL := 3) (ret := some .int) [some (.ref (gl_r F 126)), some (.int (nI c)), none] (plainFor_of_name (by decide)) rfl ok_LC (by simp [Value.category]) (Nat.le_of_ble_eq_true rfl) rfl (fun V hV C => ?_)
  subst hV
  obtain ⟨hn40, hm5, hn, hm, ht, hcar, hcal⟩ := id w
  have h0 := sp_ag_0 hS
  have wF := sp_fail_W w hc
  refine gl_aload_0 (pc := 0) C dX4_allThereInWithout_0 ?_
  refine gl_getR (pc := 1) C dX4_allThereInWithout_1 fX4_allThereInWithout_16 rfl rfl ?_
  refine gl_aload_0 (pc := 4) C dX4_allThereInWithout_4 ?_
  refine gl_getR (pc := 5) C dX4_allThereInWithout_5 fX4_allThereInWithout_10 rfl rfl ?_
  refine gl_callVv (pc := 8) (gl_up2 (F := V.1) 1 0 (by omega) (by omega) (by omega) (ctX3_copyFrom (gl_sh V.1 (gl_e2 1 0)) _)) C dX4_allThereInWithout_8 gX4_allThereInWithout_X3_copyFrom rfl hdX3_copyFrom ⟨rfl, rfl, Nat.le_of_ble_eq_true rfl, Nat.le_of_ble_eq_true rfl⟩ rfl (Nat.le_of_ble_eq_true rfl) rfl rfl rfl ?_
  refine gl_mem (sp_blk_congr (T := S) (fun i hi => hS i hi)) ?_
  refine gl_aload_0 (pc := 11) C dX4_allThereInWithout_11 ?_
  refine gl_getR (pc := 12) C dX4_allThereInWithout_12 fX4_allThereInWithout_16 rfl rfl ?_
  refine gl_iload_1 (pc := 15) C dX4_allThereInWithout_15 ?_
  refine gl_callVv (pc := 16) (gl_up1 1 (by omega) sp_blk_ag (ctX3_breakCar (gl_sh V.1 (gl_eH 1)) w c hc)) C dX4_allThereInWithout_16 gX4_allThereInWithout_X3_breakCar rfl hdX3_breakCar ⟨rfl, rfl, Nat.le_of_ble_eq_true rfl, Nat.le_of_ble_eq_true rfl⟩ rfl (Nat.le_of_ble_eq_true rfl) rfl rfl rfl ?_
  refine gl_mem sp_blk_blk ?_
  refine gl_iconst (pc := 19) (nI 0) C dX4_allThereInWithout_19 (by decide) ?_
  refine gl_istore_2 (pc := 20) C dX4_allThereInWithout_20 ?_
  refine gl_loop (pc := 21) (n := 401) (fun j => [some (.ref (gl_r V.1 126)), some (.int (nI c)), some (.int (nI j))]) (fun j => (sp_blk G 1 (sp_run (sp_fail S c t n) t n m j))) (fun j => sp_alJ (sp_fail S c t n) t n m = sp_fst (sp_alP (sp_fail S c t n) t n m) j (401 - j)) 0 (Nat.zero_le _) (rfl) (gl_le_c (rfl) (gl_le_c (rfl) (gl_le_c (rfl) (gl_le_n)))) (rfl) (fun hI => ?_) (fun j hj hI ih => ?_)
  · skip
    have eJ : sp_alJ (sp_fail S c t n) t n m = 401 := by rw [hI, sp_fst_end]
    refine gl_iload_2 (pc := 21) C dX4_allThereInWithout_21 ?_
    refine gl_sipush (pc := 22) (nI 400) C dX4_allThereInWithout_22 (by decide +kernel) ?_
    refine gl_icmp_gt (pc := 25) 67 C dX4_allThereInWithout_25 (by decide) (fun h25 => ?_) (fun h25 => absurd h25 (not_not_intro (nI_lt (by omega) (by omega))))
    refine gl_sipush (pc := 67) (nI 401) C dX4_allThereInWithout_67 (by decide +kernel) ?_
    exact gl_iret (pc := 70) C dX4_allThereInWithout_70 (by rw [eJ]) (by rw [eJ])
  · skip
    have wj := sp_run_W wF j
    refine gl_iload_2 (pc := 21) C dX4_allThereInWithout_21 ?_
    refine gl_sipush (pc := 22) (nI 400) C dX4_allThereInWithout_22 (by decide +kernel) ?_
    refine gl_icmp_gt (pc := 25) 67 C dX4_allThereInWithout_25 (by decide) (fun h25 => absurd h25 (nI_nlt (by omega) (by omega))) (fun h25 => ?_)
    refine gl_aload_0 (pc := 28) C dX4_allThereInWithout_28 ?_
    refine gl_getR (pc := 29) C dX4_allThereInWithout_29 fX4_allThereInWithout_16 rfl rfl ?_
    refine gl_getR (pc := 32) C dX4_allThereInWithout_32 fX4_allThereInWithout_58 rfl rfl ?_
    refine gl_iconst (pc := 35) (nI 3) C dX4_allThereInWithout_35 (by decide) ?_
    refine gl_callVi (pc := 36) (gl_up1r 1 (by omega) sp_blk_ag (ctX0_numberIn (gl_sh V.1 (gl_eH 1)) hn40 wj.2.2.1 (nI 3))) C dX4_allThereInWithout_36 gX4_allThereInWithout_X0_numberIn rfl hdX0_numberIn ⟨rfl, rfl, Nat.le_of_ble_eq_true rfl, Nat.le_of_ble_eq_true rfl⟩ rfl (Nat.le_of_ble_eq_true rfl) rfl rfl rfl ?_
    refine gl_aload_0 (pc := 39) C dX4_allThereInWithout_39 ?_
    refine gl_getR (pc := 40) C dX4_allThereInWithout_40 fX4_allThereInWithout_16 rfl rfl ?_
    refine gl_getR (pc := 43) C dX4_allThereInWithout_43 fX4_allThereInWithout_58 rfl rfl ?_
    refine gl_getI (pc := 46) C dX4_allThereInWithout_46 fX4_allThereInWithout_82 rfl rfl ?_
    refine gl_top ((sp_blk_in (h := 1) (i := 2) (by omega)).trans wj.2.2.1) ?_
    refine gl_icmp_ne (pc := 49) 54 C dX4_allThereInWithout_49 (by decide) (fun h49 => ?_) (fun h49 => ?_)
    · skip
      refine gl_aload_0 (pc := 54) C dX4_allThereInWithout_54 ?_
      refine gl_getR (pc := 55) C dX4_allThereInWithout_55 fX4_allThereInWithout_16 rfl rfl ?_
      refine gl_callVv (pc := 58) (gl_up1 1 (by omega) sp_blk_ag (ctX3_oneTick (gl_sh V.1 (gl_eH 1)) wj (by omega))) C dX4_allThereInWithout_58 gX4_allThereInWithout_X3_oneTick rfl hdX3_oneTick ⟨rfl, rfl, Nat.le_of_ble_eq_true rfl, Nat.le_of_ble_eq_true rfl⟩ rfl (Nat.le_of_ble_eq_true rfl) rfl rfl rfl ?_
      first | with_reducible refine gl_iincN_2 (pc := 61) gl_i1 C dX4_allThereInWithout_61 ?_ | refine gl_iinc_2 (pc := 61) C dX4_allThereInWithout_61 (gl_inc1 _) ?_
      refine gl_goto (pc := 64) 21 C dX4_allThereInWithout_64 (by decide) ?_
      exact gl_on (ih (hI.trans (sp_fst_no hj (by simp only [decide_eq_true_eq]; exact fun q => h49 ((sp_in_lt hn40).mpr q))))) (gl_le_c (rfl) (gl_le_c (rfl) (gl_le_c (rfl) (gl_le_n)))) (sp_blk_blk)
    · skip
      have eJ : sp_alJ (sp_fail S c t n) t n m = j := hI.trans (sp_fst_at hj (by simp only [decide_eq_true_eq]; exact (sp_in_lt hn40).mp h49))
      refine gl_iload_2 (pc := 52) C dX4_allThereInWithout_52 ?_
      exact gl_iret (pc := 53) C dX4_allThereInWithout_53 (by rw [eJ]) (by rw [eJ])
set_option maxRecDepth 100000 in
set_option maxHeartbeats 4000000 in
theorem ctX4_worstCar (F : gl_F) {n m t : Nat} {G S : Nat → Int32} (w : sp_W n m t S) (ht31 : t < 2000000) (hS : sp_ag G 0 S) (x : Int32) : gl_Ct F LC yX4_worstCar wsX4_worstCar rmX4_worstCar [.ref (gl_r F 126), .int x] G (some (.int (pa_worst S n m t x))) (if sp_inr x (nI 0) (nI 1) then sp_wG G S t n m m else G) := by
  refine gl_met (cc := cX4_worstCar) (maxL := 6) (ret := some .int) [some (.ref (gl_r F 126)), some (.int x), none, none, none, none] (plainFor_of_name (by decide)) rfl ok_LC (by simp [Value.category]) (Nat.le_of_ble_eq_true rfl) rfl (fun V hV C => ?_)
  subst hV
  obtain ⟨hn40, hm5, hn, hm, ht, hcar, hcal⟩ := id w
  have h0 := sp_ag_0 hS
  refine gl_iload_1 (pc := 0) C dX4_worstCar_0 ?_
  refine gl_iflt (pc := 1) 9 C dX4_worstCar_1 (by decide) (fun h1 => ?_) (fun h1 => ?_)
  · skip
    have hno : ¬ sp_inr x (nI 0) (nI 1) := fun q => ((sp_in0 x 1).mpr q).1 h1
    refine gl_iconst (pc := 9) (-1) C dX4_worstCar_9 (by decide) ?_
    exact gl_iret (pc := 10) C dX4_worstCar_10 (by rw [pa_worst, if_neg hno]) ((if_neg hno).symm)
  · skip
    refine gl_iload_1 (pc := 4) C dX4_worstCar_4 ?_
    refine gl_iconst (pc := 5) (nI 1) C dX4_worstCar_5 (by decide) ?_
    refine gl_icmp_le (pc := 6) 11 C dX4_worstCar_6 (by decide) (fun h6 => ?_) (fun h6 => ?_)
    · skip
      have hok := (sp_in0 x 1).mp ⟨h1, h6⟩
      refine gl_bipush (pc := 11) (-9) C dX4_worstCar_11 (by decide +kernel) ?_
      refine gl_istore_2 (pc := 13) C dX4_worstCar_13 ?_
      refine gl_bipush (pc := 14) (-9) C dX4_worstCar_14 (by decide +kernel) ?_
      refine gl_istore_3 (pc := 16) C dX4_worstCar_16 ?_
      refine gl_iconst (pc := 17) (nI 0) C dX4_worstCar_17 (by decide) ?_
      refine gl_istore_4 (pc := 18) C dX4_worstCar_18 ?_
      refine gl_loop (pc := 20) (n := m) (fun c => [some (.ref (gl_r V.1 126)), some (.int x), some (.int (sp_worst S t n m c).1), some (.int (sp_worst S t n m c).2), some (.int (nI c)), none]) (fun c => (sp_wG G S t n m c)) (fun c => True) 0 (Nat.zero_le _) (trivial) (gl_le_c (rfl) (gl_le_c (rfl) (gl_le_c (rfl) (gl_le_c (rfl) (gl_le_c (rfl) (gl_le_o (gl_le_n))))))) (rfl) (fun hI => ?_) (fun c hc hI ih => ?_)
      · skip
        refine gl_iload_4 (pc := 20) C dX4_worstCar_20 ?_
        refine gl_aload_0 (pc := 22) C dX4_worstCar_22 ?_
        refine gl_getR (pc := 23) C dX4_worstCar_23 fX4_worstCar_10 rfl rfl ?_
        refine gl_getR (pc := 26) C dX4_worstCar_26 fX4_worstCar_30 rfl rfl ?_
        refine gl_getI (pc := 29) C dX4_worstCar_29 fX4_worstCar_34 rfl rfl ?_
        refine gl_top ((sp_ag_0 (sp_wG_0 hS m) 1 (by omega)).trans hm) ?_
        refine gl_icmp_ge (pc := 32) 81 C dX4_worstCar_32 (by decide) (fun h32 => ?_) (fun h32 => absurd h32 (gl_xge))
        refine gl_iload_1 (pc := 81) C dX4_worstCar_81 ?_
        refine gl_ifne (pc := 82) 89 C dX4_worstCar_82 (by decide) (fun h82 => ?_) (fun h82 => ?_)
        · skip
          refine gl_iload_3 (pc := 89) C dX4_worstCar_89 ?_
          exact gl_iret (pc := 90) C dX4_worstCar_90 (by rw [pa_worst, if_pos hok, if_neg h82]) ((if_pos hok).symm)
        · skip
          refine gl_iload_2 (pc := 85) C dX4_worstCar_85 ?_
          refine gl_goto (pc := 86) 90 C dX4_worstCar_86 (by decide) ?_
          exact gl_iret (pc := 90) C dX4_worstCar_90 (by rw [pa_worst, if_pos hok, if_pos h82]) ((if_pos hok).symm)
      · skip
        have hc0 := sp_wG_0 (t := t) (n := n) (m := m) hS c
        refine gl_iload_4 (pc := 20) C dX4_worstCar_20 ?_
        refine gl_aload_0 (pc := 22) C dX4_worstCar_22 ?_
        refine gl_getR (pc := 23) C dX4_worstCar_23 fX4_worstCar_10 rfl rfl ?_
        refine gl_getR (pc := 26) C dX4_worstCar_26 fX4_worstCar_30 rfl rfl ?_
        refine gl_getI (pc := 29) C dX4_worstCar_29 fX4_worstCar_34 rfl rfl ?_
        refine gl_top ((sp_ag_0 hc0 1 (by omega)).trans hm) ?_
        refine gl_icmp_ge (pc := 32) 81 C dX4_worstCar_32 (by decide) (fun h32 => absurd h32 (nI_ge hc (by omega))) (fun h32 => ?_)
        refine gl_aload_0 (pc := 35) C dX4_worstCar_35 ?_
        refine gl_getR (pc := 36) C dX4_worstCar_36 fX4_worstCar_10 rfl rfl ?_
        refine gl_getR (pc := 39) C dX4_worstCar_39 fX4_worstCar_30 rfl rfl ?_
        refine gl_getR (pc := 42) C dX4_worstCar_42 fX4_worstCar_55 rfl rfl ?_
        refine gl_iload_4 (pc := 45) C dX4_worstCar_45 ?_
        refine gl_iald (pc := 47) _ C dX4_worstCar_47 rfl rfl (by omega) ?_
        refine gl_top (sp_ag_0 hc0 (iC c 4) (by unfold iC; omega)) ?_
        refine gl_iconst (pc := 48) (nI 2) C dX4_worstCar_48 (by decide) ?_
        refine gl_icmp_ne (pc := 49) 55 C dX4_worstCar_49 (by decide) (fun h49 => ?_) (fun h49 => ?_)
        · skip
          refine gl_aload_0 (pc := 55) C dX4_worstCar_55 ?_
          refine gl_iload_4 (pc := 56) C dX4_worstCar_56 ?_
          refine gl_callVi (pc := 58) (ctX4_allThereInWithout V.1 w ht31 hc0 c hc) C dX4_worstCar_58 gX4_worstCar_X4_allThereInWithout rfl hdX4_allThereInWithout ⟨rfl, rfl, Nat.le_of_ble_eq_true rfl, Nat.le_of_ble_eq_true rfl⟩ rfl (Nat.le_of_ble_eq_true rfl) rfl rfl rfl ?_
          refine gl_istore_5 (pc := 61) C dX4_worstCar_61 ?_
          refine gl_iload_5 (pc := 63) C dX4_worstCar_63 ?_
          refine gl_iload_3 (pc := 65) C dX4_worstCar_65 ?_
          refine gl_icmp_le (pc := 66) 75 C dX4_worstCar_66 (by decide) (fun h66 => ?_) (fun h66 => ?_)
          · skip
            first | with_reducible refine gl_iincN_4 (pc := 75) gl_i1 C dX4_worstCar_75 ?_ | refine gl_iinc_4 (pc := 75) C dX4_worstCar_75 (gl_inc1 _) ?_
            refine gl_goto (pc := 78) 20 C dX4_worstCar_78 (by decide) ?_
            exact gl_on (ih (trivial)) (gl_le_c (rfl) (gl_le_c (rfl) (gl_le_c (congrArg Value.int (by rw [sp_worst, if_neg h49, if_pos h66])) (gl_le_c (congrArg Value.int (by rw [sp_worst, if_neg h49, if_pos h66])) (gl_le_c (rfl) (gl_le_o (gl_le_n))))))) (by rw [sp_wG, if_neg h49])
          · skip
            refine gl_iload_5 (pc := 69) C dX4_worstCar_69 ?_
            refine gl_istore_3 (pc := 71) C dX4_worstCar_71 ?_
            refine gl_iload_4 (pc := 72) C dX4_worstCar_72 ?_
            refine gl_istore_2 (pc := 74) C dX4_worstCar_74 ?_
            first | with_reducible refine gl_iincN_4 (pc := 75) gl_i1 C dX4_worstCar_75 ?_ | refine gl_iinc_4 (pc := 75) C dX4_worstCar_75 (gl_inc1 _) ?_
            refine gl_goto (pc := 78) 20 C dX4_worstCar_78 (by decide) ?_
            exact gl_on (ih (trivial)) (gl_le_c (rfl) (gl_le_c (rfl) (gl_le_c (congrArg Value.int (by rw [sp_worst, if_neg h49, if_neg h66])) (gl_le_c (congrArg Value.int (by rw [sp_worst, if_neg h49, if_neg h66])) (gl_le_c (rfl) (gl_le_o (gl_le_n))))))) (by rw [sp_wG, if_neg h49])
        · skip
          refine gl_goto (pc := 52) 75 C dX4_worstCar_52 (by decide) ?_
          first | with_reducible refine gl_iincN_4 (pc := 75) gl_i1 C dX4_worstCar_75 ?_ | refine gl_iinc_4 (pc := 75) C dX4_worstCar_75 (gl_inc1 _) ?_
          refine gl_goto (pc := 78) 20 C dX4_worstCar_78 (by decide) ?_
          exact gl_on (ih (trivial)) (gl_le_c (rfl) (gl_le_c (rfl) (gl_le_c (congrArg Value.int (by rw [sp_worst, if_pos h49])) (gl_le_c (congrArg Value.int (by rw [sp_worst, if_pos h49])) (gl_le_c (rfl) (gl_le_o (gl_le_n))))))) (by rw [sp_wG, if_pos h49])
    · skip
      have hno : ¬ sp_inr x (nI 0) (nI 1) := fun q => h6 ((sp_in0 x 1).mpr q).2
      refine gl_iconst (pc := 9) (-1) C dX4_worstCar_9 (by decide) ?_
      exact gl_iret (pc := 10) C dX4_worstCar_10 (by rw [pa_worst, if_neg hno]) ((if_neg hno).symm)
set_option maxRecDepth 100000 in
set_option maxHeartbeats 4000000 in
theorem ctX4_waits (F : gl_F) {n m t : Nat} {G S : Nat → Int32} (w : sp_W n m t S) (ht31 : t < 2000000) (hS : sp_ag G 0 S) (x : Int32) : gl_Ct F LC yX4_waits wsX4_waits rmX4_waits [.ref (gl_r F 126), .int x] G (some (.int (pa_waits S n t x))) (G) := by
  refine gl_met (cc := cX4_waits) (maxL := 7) (ret := some .int) [some (.ref (gl_r F 126)), some (.int x), none, none, none, none, none] (plainFor_of_name (by decide)) rfl ok_LC (by simp [Value.category]) (Nat.le_of_ble_eq_true rfl) rfl (fun V hV C => ?_)
  subst hV
  obtain ⟨hn40, hm5, hn, hm, ht, hcar, hcal⟩ := id w
  have h0 := sp_ag_0 hS
  refine gl_iload_1 (pc := 0) C dX4_waits_0 ?_
  refine gl_iflt (pc := 1) 9 C dX4_waits_1 (by decide) (fun h1 => ?_) (fun h1 => ?_)
  · skip
    have hno : ¬ sp_inr x (nI 0) (nI 2) := fun q => ((sp_in0 x 2).mpr q).1 h1
    refine gl_iconst (pc := 9) (-1) C dX4_waits_9 (by decide) ?_
    exact gl_iret (pc := 10) C dX4_waits_10 (by rw [pa_waits, if_neg hno]) (rfl)
  · skip
    refine gl_iload_1 (pc := 4) C dX4_waits_4 ?_
    refine gl_iconst (pc := 5) (nI 2) C dX4_waits_5 (by decide) ?_
    refine gl_icmp_le (pc := 6) 11 C dX4_waits_6 (by decide) (fun h6 => ?_) (fun h6 => ?_)
    · skip
      have hok := (sp_in0 x 2).mp ⟨h1, h6⟩
      refine gl_bipush (pc := 11) (-9) C dX4_waits_11 (by decide +kernel) ?_
      refine gl_istore_2 (pc := 13) C dX4_waits_13 ?_
      refine gl_bipush (pc := 14) (-9) C dX4_waits_14 (by decide +kernel) ?_
      refine gl_istore_3 (pc := 16) C dX4_waits_16 ?_
      refine gl_iconst (pc := 17) (nI 0) C dX4_waits_17 (by decide) ?_
      refine gl_istore_4 (pc := 18) C dX4_waits_18 ?_
      refine gl_iconst (pc := 20) (nI 0) C dX4_waits_20 (by decide) ?_
      refine gl_istore_5 (pc := 21) C dX4_waits_21 ?_
      refine gl_loop (pc := 23) (n := n) (fun k => [some (.ref (gl_r V.1 126)), some (.int x), some (.int (sp_ws S (nI t) k).2.1), some (.int (sp_ws S (nI t) k).2.2), some (.int (sp_ws S (nI t) k).1), some (.int (nI k)), none]) (fun k => G) (fun k => True) 0 (Nat.zero_le _) (trivial) (gl_le_c (rfl) (gl_le_c (rfl) (gl_le_c (rfl) (gl_le_c (rfl) (gl_le_c (rfl) (gl_le_c (rfl) (gl_le_o (gl_le_n)))))))) (rfl) (fun hI => ?_) (fun k hk hI ih => ?_)
      · skip
        refine gl_iload_5 (pc := 23) C dX4_waits_23 ?_
        refine gl_aload_0 (pc := 25) C dX4_waits_25 ?_
        refine gl_getR (pc := 26) C dX4_waits_26 fX4_waits_10 rfl rfl ?_
        refine gl_getR (pc := 29) C dX4_waits_29 fX4_waits_58 rfl rfl ?_
        refine gl_getI (pc := 32) C dX4_waits_32 fX4_waits_82 rfl rfl ?_
        refine gl_top ((h0 2 (by omega)).trans hn) ?_
        refine gl_icmp_ge (pc := 35) 84 C dX4_waits_35 (by decide) (fun h35 => ?_) (fun h35 => absurd h35 (gl_xge))
        refine gl_iload_1 (pc := 84) C dX4_waits_84 ?_
        rcases gl_cases x 2 (by omega) with hsw | ⟨i85, hi85, ex85⟩
        · skip
          exact absurd hok (sp_tab_inr (N := 2) (by omega) hsw)
        · subst ex85
          rcases (show i85 = 0 ∨ i85 = 1 ∨ i85 = 2 by omega) with rfl | rfl | rfl
          · skip
            refine gl_lookup (pc := 85) (off := 27) 112 C dX4_waits_85 (by decide) (by decide) (by decide) ?_
            refine gl_iload_2 (pc := 112) C dX4_waits_112 ?_
            exact gl_iret (pc := 113) C dX4_waits_113 (by rw [pa_waits, if_pos hok, if_neg (by decide), if_pos nI_0']) (rfl)
          · skip
            refine gl_lookup (pc := 85) (off := 29) 114 C dX4_waits_85 (by decide) (by decide) (by decide) ?_
            refine gl_iload_3 (pc := 114) C dX4_waits_114 ?_
            exact gl_iret (pc := 115) C dX4_waits_115 (by rw [pa_waits, if_pos hok, if_neg (by decide), if_neg (by decide)]) (rfl)
          · skip
            refine gl_lookup (pc := 85) (off := 31) 116 C dX4_waits_85 (by decide) (by decide) (by decide) ?_
            refine gl_iload_4 (pc := 116) C dX4_waits_116 ?_
            exact gl_iret (pc := 118) C dX4_waits_118 (by rw [pa_waits, if_pos hok, if_pos rfl]) (rfl)
      · skip
        refine gl_iload_5 (pc := 23) C dX4_waits_23 ?_
        refine gl_aload_0 (pc := 25) C dX4_waits_25 ?_
        refine gl_getR (pc := 26) C dX4_waits_26 fX4_waits_10 rfl rfl ?_
        refine gl_getR (pc := 29) C dX4_waits_29 fX4_waits_58 rfl rfl ?_
        refine gl_getI (pc := 32) C dX4_waits_32 fX4_waits_82 rfl rfl ?_
        refine gl_top ((h0 2 (by omega)).trans hn) ?_
        refine gl_icmp_ge (pc := 35) 84 C dX4_waits_35 (by decide) (fun h35 => absurd h35 (nI_ge hk (by omega))) (fun h35 => ?_)
        refine gl_aload_0 (pc := 38) C dX4_waits_38 ?_
        refine gl_getR (pc := 39) C dX4_waits_39 fX4_waits_10 rfl rfl ?_
        refine gl_getR (pc := 42) C dX4_waits_42 fX4_waits_58 rfl rfl ?_
        refine gl_iload_5 (pc := 45) C dX4_waits_45 ?_
        refine gl_aload_0 (pc := 47) C dX4_waits_47 ?_
        refine gl_getR (pc := 48) C dX4_waits_48 fX4_waits_10 rfl rfl ?_
        refine gl_getI (pc := 51) C dX4_waits_51 fX4_waits_87 rfl rfl ?_
        refine gl_top ((h0 0 (by omega)).trans ht) ?_
        refine gl_callVi (pc := 54) (gl_up1r 0 (by omega) hS (ctX0_waitOf (gl_sh V.1 (gl_eH 0)) S k (by omega) (nI t))) C dX4_waits_54 gX4_waits_X0_waitOf rfl hdX0_waitOf ⟨rfl, rfl, Nat.le_of_ble_eq_true rfl, Nat.le_of_ble_eq_true rfl⟩ rfl (Nat.le_of_ble_eq_true rfl) rfl rfl rfl ?_
        refine gl_istore_6 (pc := 57) C dX4_waits_57 ?_
        refine gl_iload_4 (pc := 59) C dX4_waits_59 ?_
        refine gl_iload_6 (pc := 61) C dX4_waits_61 ?_
        first | with_reducible refine gl_iaddN (pc := 63) C dX4_waits_63 ?_ | refine gl_iadd (pc := 63) C dX4_waits_63 ?_
        refine gl_istore_4 (pc := 64) C dX4_waits_64 ?_
        refine gl_iload_6 (pc := 66) C dX4_waits_66 ?_
        refine gl_iload_2 (pc := 68) C dX4_waits_68 ?_
        refine gl_icmp_le (pc := 69) 78 C dX4_waits_69 (by decide) (fun h69 => ?_) (fun h69 => ?_)
        · skip
          first | with_reducible refine gl_iincN_5 (pc := 78) gl_i1 C dX4_waits_78 ?_ | refine gl_iinc_5 (pc := 78) C dX4_waits_78 (gl_inc1 _) ?_
          refine gl_goto (pc := 81) 23 C dX4_waits_81 (by decide) ?_
          exact gl_on (ih (trivial)) (gl_le_c (rfl) (gl_le_c (rfl) (gl_le_c (congrArg Value.int (by simp only [sp_ws, if_pos h69])) (gl_le_c (congrArg Value.int (by simp only [sp_ws, if_pos h69])) (gl_le_c (rfl) (gl_le_c (rfl) (gl_le_o (gl_le_n)))))))) (rfl)
        · skip
          refine gl_iload_6 (pc := 72) C dX4_waits_72 ?_
          refine gl_istore_2 (pc := 74) C dX4_waits_74 ?_
          refine gl_iload_5 (pc := 75) C dX4_waits_75 ?_
          refine gl_istore_3 (pc := 77) C dX4_waits_77 ?_
          first | with_reducible refine gl_iincN_5 (pc := 78) gl_i1 C dX4_waits_78 ?_ | refine gl_iinc_5 (pc := 78) C dX4_waits_78 (gl_inc1 _) ?_
          refine gl_goto (pc := 81) 23 C dX4_waits_81 (by decide) ?_
          exact gl_on (ih (trivial)) (gl_le_c (rfl) (gl_le_c (rfl) (gl_le_c (congrArg Value.int (by simp only [sp_ws, if_neg h69])) (gl_le_c (congrArg Value.int (by simp only [sp_ws, if_neg h69])) (gl_le_c (rfl) (gl_le_c (rfl) (gl_le_o (gl_le_n)))))))) (rfl)
    · skip
      have hno : ¬ sp_inr x (nI 0) (nI 2) := fun q => h6 ((sp_in0 x 2).mpr q).2
      refine gl_iconst (pc := 9) (-1) C dX4_waits_9 (by decide) ?_
      exact gl_iret (pc := 10) C dX4_waits_10 (by rw [pa_waits, if_neg hno]) (rfl)
