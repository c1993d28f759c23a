theorem fX4_count_10 : gl_fl wsX4_count RX4 10 4 0 := ⟨RX4, TX4, 3, RX4, rfl, by decide, by decide +kernel, by decide +kernel, rfl⟩
theorem fX4_count_22 : gl_fl wsX4_count RX4 22 4 2 := ⟨RX4, TX4, 3, RX4, rfl, by decide, by decide +kernel, by decide +kernel, rfl⟩
theorem fX4_count_30 : gl_fl wsX4_count RX4 30 3 2 := ⟨RX3, TX3, 4, RX3, rfl, by decide, by decide +kernel, by decide +kernel, rfl⟩
theorem fX4_count_34 : gl_fl wsX4_count RX4 34 1 0 := ⟨RX1, TX1, 8, RX1, rfl, by decide, by decide +kernel, by decide +kernel, rfl⟩
theorem fX4_count_58 : gl_fl wsX4_count RX4 58 3 3 := ⟨RX3, TX3, 4, RX3, rfl, by decide, by decide +kernel, by decide +kernel, rfl⟩
theorem fX4_count_82 : gl_fl wsX4_count RX4 82 0 0 := ⟨RX0, TX0, 9, RX0, rfl, by decide, by decide +kernel, by decide +kernel, rfl⟩
theorem fX4_count_87 : gl_fl wsX4_count RX4 87 3 0 := ⟨RX3, TX3, 4, RX3, rfl, by decide, by decide +kernel, by decide +kernel, rfl⟩
theorem fX4_count_98 : gl_fl wsX4_count RX4 98 2 0 := ⟨RX2, TX2, 3, RX2, rfl, by decide, by decide +kernel, by decide +kernel, rfl⟩
theorem fX4_count_112 : gl_fl wsX4_count RX4 112 1 1 := ⟨RX1, TX1, 8, RX1, rfl, by decide, by decide +kernel, by decide +kernel, rfl⟩
theorem fX4_car_10 : gl_fl wsX4_car RX4 10 4 0 := ⟨RX4, TX4, 3, RX4, rfl, by decide, by decide +kernel, by decide +kernel, rfl⟩
theorem fX4_car_30 : gl_fl wsX4_car RX4 30 3 2 := ⟨RX3, TX3, 4, RX3, rfl, by decide, by decide +kernel, by decide +kernel, rfl⟩
theorem fX4_car_55 : gl_fl wsX4_car RX4 55 1 6 := ⟨RX1, TX1, 8, RX1, rfl, by decide, by decide +kernel, by decide +kernel, rfl⟩
theorem fX4_car_58 : gl_fl wsX4_car RX4 58 3 3 := ⟨RX3, TX3, 4, RX3, rfl, by decide, by decide +kernel, by decide +kernel, rfl⟩
theorem fX4_car_75 : gl_fl wsX4_car RX4 75 1 5 := ⟨RX1, TX1, 8, RX1, rfl, by decide, by decide +kernel, by decide +kernel, rfl⟩
theorem fX4_car_130 : gl_fl wsX4_car RX4 130 1 7 := ⟨RX1, TX1, 8, RX1, rfl, by decide, by decide +kernel, by decide +kernel, rfl⟩
theorem fX4_caller_10 : gl_fl wsX4_caller RX4 10 4 0 := ⟨RX4, TX4, 3, RX4, rfl, by decide, by decide +kernel, by decide +kernel, rfl⟩
theorem fX4_caller_58 : gl_fl wsX4_caller RX4 58 3 3 := ⟨RX3, TX3, 4, RX3, rfl, by decide, by decide +kernel, by decide +kernel, rfl⟩
theorem fX4_caller_137 : gl_fl wsX4_caller RX4 137 0 1 := ⟨RX0, TX0, 9, RX0, rfl, by decide, by decide +kernel, by decide +kernel, rfl⟩
theorem fX4_caller_138 : gl_fl wsX4_caller RX4 138 0 2 := ⟨RX0, TX0, 9, RX0, rfl, by decide, by decide +kernel, by decide +kernel, rfl⟩
theorem fX4_caller_141 : gl_fl wsX4_caller RX4 141 0 3 := ⟨RX0, TX0, 9, RX0, rfl, by decide, by decide +kernel, by decide +kernel, rfl⟩
theorem fX4_caller_144 : gl_fl wsX4_caller RX4 144 0 4 := ⟨RX0, TX0, 9, RX0, rfl, by decide, by decide +kernel, by decide +kernel, rfl⟩
theorem fX4_caller_147 : gl_fl wsX4_caller RX4 147 0 5 := ⟨RX0, TX0, 9, RX0, rfl, by decide, by decide +kernel, by decide +kernel, rfl⟩
theorem fX4_caller_150 : gl_fl wsX4_caller RX4 150 0 6 := ⟨RX0, TX0, 9, RX0, rfl, by decide, by decide +kernel, by decide +kernel, rfl⟩
theorem fX4_caller_153 : gl_fl wsX4_caller RX4 153 0 7 := ⟨RX0, TX0, 9, RX0, rfl, by decide, by decide +kernel, by decide +kernel, rfl⟩
theorem fX4_caller_156 : gl_fl wsX4_caller RX4 156 0 8 := ⟨RX0, TX0, 9, RX0, rfl, by decide, by decide +kernel, by decide +kernel, rfl⟩
theorem fX4_group_10 : gl_fl wsX4_group RX4 10 4 0 := ⟨RX4, TX4, 3, RX4, rfl, by decide, by decide +kernel, by decide +kernel, rfl⟩
theorem fX4_group_58 : gl_fl wsX4_group RX4 58 3 3 := ⟨RX3, TX3, 4, RX3, rfl, by decide, by decide +kernel, by decide +kernel, rfl⟩
theorem fX4_group_137 : gl_fl wsX4_group RX4 137 0 1 := ⟨RX0, TX0, 9, RX0, rfl, by decide, by decide +kernel, by decide +kernel, rfl⟩
theorem fX4_group_138 : gl_fl wsX4_group RX4 138 0 2 := ⟨RX0, TX0, 9, RX0, rfl, by decide, by decide +kernel, by decide +kernel, rfl⟩
set_option maxRecDepth 100000 in
set_option maxHeartbeats 4000000 in
theorem ctX4_count (F : gl_F) {n m t : Nat} {G S : Nat → Int32} (w : sp_W n m t S) (ht31 : t < 2000000) (hS : sp_ag G 0 S) {p : Nat} (hp : G 2646 = nI p) (x : Int32) : gl_Ct F LC yX4_count wsX4_count rmX4_count [.ref (gl_r F 126), .int x] G (some (.int (pa_tab 13 (pc_count S n m t p) x))) (G) := by
  refine gl_met (cc := cX4_count) (maxL := 2) (ret := some .int) [some (.ref (gl_r F 126)), some (.int x)] (plainFor_of_name (by decide)) rfl ok_LC (by simp [Value.category]) (Nat.le_of_ble_eq_true rfl) rfl (fun V hV C => ?_)
  subst hV
  obtain ⟨hn40, hm5, hn, hm, ht, hcar, hcal⟩ := id w
  have h0 := sp_ag_0 hS
  refine gl_iload_1 (pc := 0) C dX4_count_0 ?_
  rcases gl_cases x 13 (by omega) with hsw | ⟨i1, hi1, ex1⟩
  · skip
    refine gl_tableOut (pc := 1) 223 C dX4_count_1 hsw (by decide) ?_
    refine gl_iconst (pc := 223) (-1) C dX4_count_223 (by decide) ?_
    exact gl_iret (pc := 224) C dX4_count_224 ((pa_tab_out hsw).symm) (rfl)
  · subst ex1
    rcases (show i1 = 0 ∨ i1 = 1 ∨ i1 = 2 ∨ i1 = 3 ∨ i1 = 4 ∨ i1 = 5 ∨ i1 = 6 ∨ i1 = 7 ∨ i1 = 8 ∨ i1 = 9 ∨ i1 = 10 ∨ i1 = 11 ∨ i1 = 12 ∨ i1 = 13 by omega) with rfl | rfl | rfl | rfl | rfl | rfl | rfl | rfl | rfl | rfl | rfl | rfl | rfl | rfl
    · skip
      refine gl_tableIn (pc := 1) (off := 71) 72 C dX4_count_1 (by decide) (by decide) (by decide) (by decide) ?_
      refine gl_aload_0 (pc := 72) C dX4_count_72 ?_
      refine gl_getR (pc := 73) C dX4_count_73 fX4_count_10 rfl rfl ?_
      refine gl_getI (pc := 76) C dX4_count_76 fX4_count_87 rfl rfl ?_
      refine gl_top ((h0 0 (by omega)).trans ht) ?_
      exact gl_iret (pc := 79) C dX4_count_79 (by refine Eq.symm (pa_tab_in ?_ ?_) <;> omega) (rfl)
    · skip
      refine gl_tableIn (pc := 1) (off := 79) 80 C dX4_count_1 (by decide) (by decide) (by decide) (by decide) ?_
      refine gl_aload_0 (pc := 80) C dX4_count_80 ?_
      refine gl_getR (pc := 81) C dX4_count_81 fX4_count_10 rfl rfl ?_
      refine gl_callVi (pc := 84) (gl_up1r 0 (by omega) hS (ctX3_hour (gl_sh V.1 (gl_eH 0)) w (by omega))) C dX4_count_84 gX4_count_X3_hour rfl hdX3_hour ⟨rfl, rfl, Nat.le_of_ble_eq_true rfl, Nat.le_of_ble_eq_true rfl⟩ rfl (Nat.le_of_ble_eq_true rfl) rfl rfl rfl ?_
      exact gl_iret (pc := 87) C dX4_count_87 (by refine Eq.symm (pa_tab_in ?_ ?_) <;> omega) (rfl)
    · skip
      refine gl_tableIn (pc := 1) (off := 87) 88 C dX4_count_1 (by decide) (by decide) (by decide) (by decide) ?_
      refine gl_aload_0 (pc := 88) C dX4_count_88 ?_
      refine gl_getR (pc := 89) C dX4_count_89 fX4_count_10 rfl rfl ?_
      refine gl_getR (pc := 92) C dX4_count_92 fX4_count_30 rfl rfl ?_
      refine gl_getI (pc := 95) C dX4_count_95 fX4_count_34 rfl rfl ?_
      refine gl_top ((h0 1 (by omega)).trans hm) ?_
      exact gl_iret (pc := 98) C dX4_count_98 (by refine Eq.symm (pa_tab_in ?_ ?_) <;> omega) (rfl)
    · skip
      refine gl_tableIn (pc := 1) (off := 98) 99 C dX4_count_1 (by decide) (by decide) (by decide) (by decide) ?_
      refine gl_aload_0 (pc := 99) C dX4_count_99 ?_
      refine gl_getR (pc := 100) C dX4_count_100 fX4_count_10 rfl rfl ?_
      refine gl_getR (pc := 103) C dX4_count_103 fX4_count_58 rfl rfl ?_
      refine gl_getI (pc := 106) C dX4_count_106 fX4_count_82 rfl rfl ?_
      refine gl_top ((h0 2 (by omega)).trans hn) ?_
      exact gl_iret (pc := 109) C dX4_count_109 (by refine Eq.symm (pa_tab_in ?_ ?_) <;> omega) (rfl)
    · skip
      refine gl_tableIn (pc := 1) (off := 109) 110 C dX4_count_1 (by decide) (by decide) (by decide) (by decide) ?_
      refine gl_aload_0 (pc := 110) C dX4_count_110 ?_
      refine gl_getR (pc := 111) C dX4_count_111 fX4_count_10 rfl rfl ?_
      refine gl_getR (pc := 114) C dX4_count_114 fX4_count_58 rfl rfl ?_
      refine gl_iconst (pc := 117) (nI 0) C dX4_count_117 (by decide) ?_
      refine gl_callVi (pc := 118) (gl_up1r 0 (by omega) hS (ctX0_numberIn (gl_sh V.1 (gl_eH 0)) hn40 hn (nI 0))) C dX4_count_118 gX4_count_X0_numberIn rfl hdX0_numberIn ⟨rfl, rfl, Nat.le_of_ble_eq_true rfl, Nat.le_of_ble_eq_true rfl⟩ rfl (Nat.le_of_ble_eq_true rfl) rfl rfl rfl ?_
      exact gl_iret (pc := 121) C dX4_count_121 (by refine Eq.symm (pa_tab_in ?_ ?_) <;> omega) (rfl)
    · skip
      refine gl_tableIn (pc := 1) (off := 121) 122 C dX4_count_1 (by decide) (by decide) (by decide) (by decide) ?_
      refine gl_aload_0 (pc := 122) C dX4_count_122 ?_
      refine gl_getR (pc := 123) C dX4_count_123 fX4_count_10 rfl rfl ?_
      refine gl_getR (pc := 126) C dX4_count_126 fX4_count_58 rfl rfl ?_
      refine gl_iconst (pc := 129) (nI 1) C dX4_count_129 (by decide) ?_
      refine gl_callVi (pc := 130) (gl_up1r 0 (by omega) hS (ctX0_numberIn (gl_sh V.1 (gl_eH 0)) hn40 hn (nI 1))) C dX4_count_130 gX4_count_X0_numberIn rfl hdX0_numberIn ⟨rfl, rfl, Nat.le_of_ble_eq_true rfl, Nat.le_of_ble_eq_true rfl⟩ rfl (Nat.le_of_ble_eq_true rfl) rfl rfl rfl ?_
      exact gl_iret (pc := 133) C dX4_count_133 (by refine Eq.symm (pa_tab_in ?_ ?_) <;> omega) (rfl)
    · skip
      refine gl_tableIn (pc := 1) (off := 133) 134 C dX4_count_1 (by decide) (by decide) (by decide) (by decide) ?_
      refine gl_aload_0 (pc := 134) C dX4_count_134 ?_
      refine gl_getR (pc := 135) C dX4_count_135 fX4_count_10 rfl rfl ?_
      refine gl_getR (pc := 138) C dX4_count_138 fX4_count_58 rfl rfl ?_
      refine gl_iconst (pc := 141) (nI 2) C dX4_count_141 (by decide) ?_
      refine gl_callVi (pc := 142) (gl_up1r 0 (by omega) hS (ctX0_numberIn (gl_sh V.1 (gl_eH 0)) hn40 hn (nI 2))) C dX4_count_142 gX4_count_X0_numberIn rfl hdX0_numberIn ⟨rfl, rfl, Nat.le_of_ble_eq_true rfl, Nat.le_of_ble_eq_true rfl⟩ rfl (Nat.le_of_ble_eq_true rfl) rfl rfl rfl ?_
      exact gl_iret (pc := 145) C dX4_count_145 (by refine Eq.symm (pa_tab_in ?_ ?_) <;> omega) (rfl)
    · skip
      refine gl_tableIn (pc := 1) (off := 145) 146 C dX4_count_1 (by decide) (by decide) (by decide) (by decide) ?_
      refine gl_aload_0 (pc := 146) C dX4_count_146 ?_
      refine gl_getR (pc := 147) C dX4_count_147 fX4_count_10 rfl rfl ?_
      refine gl_getR (pc := 150) C dX4_count_150 fX4_count_58 rfl rfl ?_
      refine gl_iconst (pc := 153) (nI 3) C dX4_count_153 (by decide) ?_
      refine gl_callVi (pc := 154) (gl_up1r 0 (by omega) hS (ctX0_numberIn (gl_sh V.1 (gl_eH 0)) hn40 hn (nI 3))) C dX4_count_154 gX4_count_X0_numberIn rfl hdX0_numberIn ⟨rfl, rfl, Nat.le_of_ble_eq_true rfl, Nat.le_of_ble_eq_true rfl⟩ rfl (Nat.le_of_ble_eq_true rfl) rfl rfl rfl ?_
      exact gl_iret (pc := 157) C dX4_count_157 (by refine Eq.symm (pa_tab_in ?_ ?_) <;> omega) (rfl)
    · skip
      refine gl_tableIn (pc := 1) (off := 157) 158 C dX4_count_1 (by decide) (by decide) (by decide) (by decide) ?_
      refine gl_aload_0 (pc := 158) C dX4_count_158 ?_
      refine gl_getR (pc := 159) C dX4_count_159 fX4_count_10 rfl rfl ?_
      refine gl_getR (pc := 162) C dX4_count_162 fX4_count_58 rfl rfl ?_
      refine gl_callVi (pc := 165) (gl_up1r 0 (by omega) hS (ctX0_numberOfGroups (gl_sh V.1 (gl_eH 0)) hn40 hn)) C dX4_count_165 gX4_count_X0_numberOfGroups rfl hdX0_numberOfGroups ⟨rfl, rfl, Nat.le_of_ble_eq_true rfl, Nat.le_of_ble_eq_true rfl⟩ rfl (Nat.le_of_ble_eq_true rfl) rfl rfl rfl ?_
      exact gl_iret (pc := 168) C dX4_count_168 (by refine Eq.symm (pa_tab_in ?_ ?_) <;> omega) (rfl)
    · skip
      refine gl_tableIn (pc := 1) (off := 168) 169 C dX4_count_1 (by decide) (by decide) (by decide) (by decide) ?_
      refine gl_aload_0 (pc := 169) C dX4_count_169 ?_
      refine gl_getR (pc := 170) C dX4_count_170 fX4_count_10 rfl rfl ?_
      refine gl_getR (pc := 173) C dX4_count_173 fX4_count_30 rfl rfl ?_
      refine gl_callVi (pc := 176) (gl_up1r 0 (by omega) hS (ctX1_travelledByAll (gl_sh V.1 (gl_eH 0)) hm5 hm)) C dX4_count_176 gX4_count_X1_travelledByAll rfl hdX1_travelledByAll ⟨rfl, rfl, Nat.le_of_ble_eq_true rfl, Nat.le_of_ble_eq_true rfl⟩ rfl (Nat.le_of_ble_eq_true rfl) rfl rfl rfl ?_
      exact gl_iret (pc := 179) C dX4_count_179 (by refine Eq.symm (pa_tab_in ?_ ?_) <;> omega) (rfl)
    · skip
      refine gl_tableIn (pc := 1) (off := 179) 180 C dX4_count_1 (by decide) (by decide) (by decide) (by decide) ?_
      refine gl_aload_0 (pc := 180) C dX4_count_180 ?_
      refine gl_getR (pc := 181) C dX4_count_181 fX4_count_10 rfl rfl ?_
      refine gl_getR (pc := 184) C dX4_count_184 fX4_count_30 rfl rfl ?_
      refine gl_getI (pc := 187) C dX4_count_187 fX4_count_112 rfl rfl ?_
      refine gl_top (h0 3 (by omega)) ?_
      exact gl_iret (pc := 190) C dX4_count_190 (by refine Eq.symm (pa_tab_in ?_ ?_) <;> omega) (rfl)
    · skip
      refine gl_tableIn (pc := 1) (off := 190) 191 C dX4_count_1 (by decide) (by decide) (by decide) (by decide) ?_
      refine gl_aload_0 (pc := 191) C dX4_count_191 ?_
      refine gl_getR (pc := 192) C dX4_count_192 fX4_count_10 rfl rfl ?_
      refine gl_getR (pc := 195) C dX4_count_195 fX4_count_30 rfl rfl ?_
      refine gl_iconst (pc := 198) (nI 1) C dX4_count_198 (by decide) ?_
      refine gl_callVi (pc := 199) (gl_up1r 0 (by omega) hS (ctX1_numberIn (gl_sh V.1 (gl_eH 0)) hm5 hm (nI 1))) C dX4_count_199 gX4_count_X1_numberIn rfl hdX1_numberIn ⟨rfl, rfl, Nat.le_of_ble_eq_true rfl, Nat.le_of_ble_eq_true rfl⟩ rfl (Nat.le_of_ble_eq_true rfl) rfl rfl rfl ?_
      exact gl_iret (pc := 202) C dX4_count_202 (by refine Eq.symm (pa_tab_in ?_ ?_) <;> omega) (rfl)
    · skip
      refine gl_tableIn (pc := 1) (off := 202) 203 C dX4_count_1 (by decide) (by decide) (by decide) (by decide) ?_
      refine gl_aload_0 (pc := 203) C dX4_count_203 ?_
      refine gl_getR (pc := 204) C dX4_count_204 fX4_count_10 rfl rfl ?_
      refine gl_getR (pc := 207) C dX4_count_207 fX4_count_30 rfl rfl ?_
      refine gl_iconst (pc := 210) (nI 2) C dX4_count_210 (by decide) ?_
      refine gl_callVi (pc := 211) (gl_up1r 0 (by omega) hS (ctX1_numberIn (gl_sh V.1 (gl_eH 0)) hm5 hm (nI 2))) C dX4_count_211 gX4_count_X1_numberIn rfl hdX1_numberIn ⟨rfl, rfl, Nat.le_of_ble_eq_true rfl, Nat.le_of_ble_eq_true rfl⟩ rfl (Nat.le_of_ble_eq_true rfl) rfl rfl rfl ?_
      exact gl_iret (pc := 214) C dX4_count_214 (by refine Eq.symm (pa_tab_in ?_ ?_) <;> omega) (rfl)
    · skip
      refine gl_tableIn (pc := 1) (off := 214) 215 C dX4_count_1 (by decide) (by decide) (by decide) (by decide) ?_
      refine gl_aload_0 (pc := 215) C dX4_count_215 ?_
      refine gl_getR (pc := 216) C dX4_count_216 fX4_count_22 rfl rfl ?_
      refine gl_getI (pc := 219) C dX4_count_219 fX4_count_98 rfl rfl ?_
      refine gl_top hp ?_
      exact gl_iret (pc := 222) C dX4_count_222 (by refine Eq.symm (pa_tab_in ?_ ?_) <;> omega) (rfl)
set_option maxRecDepth 100000 in
set_option maxHeartbeats 4000000 in
theorem ctX4_car (F : gl_F) {n m t : Nat} {G S : Nat → Int32} (w : sp_W n m t S) (ht31 : t < 2000000) (hS : sp_ag G 0 S) (x y : Int32) : gl_Ct F LC yX4_car wsX4_car rmX4_car [.ref (gl_r F 126), .int x, .int y] G (some (.int (pa_car S n m t x y))) (G) := by
  refine gl_met (cc := cX4_car) (maxL := 3) (ret := some .int) [some (.ref (gl_r F 126)), some (.int x), some (.int y)] (plainFor_of_name (by decide)) rfl ok_LC (by simp [Value.category]) (Nat.le_of_ble_eq_true rfl) rfl (fun V hV C => ?_)
  subst hV
  obtain ⟨hn40, hm5, hn, hm, ht, hcar, hcal⟩ := id w
  have h0 := sp_ag_0 hS
  refine gl_aload_0 (pc := 0) C dX4_car_0 ?_
  refine gl_getR (pc := 1) C dX4_car_1 fX4_car_10 rfl rfl ?_
  refine gl_getR (pc := 4) C dX4_car_4 fX4_car_30 rfl rfl ?_
  refine gl_iload_1 (pc := 7) C dX4_car_7 ?_
  refine gl_callVi (pc := 8) (gl_up1r 0 (by omega) hS (ctX1_has (gl_sh V.1 (gl_eH 0)) S x)) C dX4_car_8 gX4_car_X1_has rfl hdX1_has ⟨rfl, rfl, Nat.le_of_ble_eq_true rfl, Nat.le_of_ble_eq_true rfl⟩ rfl (Nat.le_of_ble_eq_true rfl) rfl rfl rfl ?_
  refine gl_ifne (pc := 11) 16 C dX4_car_11 (by decide) (fun h11 => ?_) (fun h11 => ?_)
  · skip
    replace h11 := gl_bn.mp h11
    rw [hm] at h11
    have hok0 := h11
    obtain ⟨c, hc, rfl⟩ := sp_has_n (by omega) hok0
    have hcN : cN (nI c) = c := nI_clamp (by omega)
    have hc5 : c < 5 := by omega
    refine gl_iload_2 (pc := 16) C dX4_car_16 ?_
    rcases gl_cases y 7 (by omega) with hsw | ⟨i17, hi17, ex17⟩
    · skip
      refine gl_tableOut (pc := 17) 185 C dX4_car_17 hsw (by decide) ?_
      refine gl_iconst (pc := 185) (-1) C dX4_car_185 (by decide) ?_
      exact gl_iret (pc := 186) C dX4_car_186 (by rw [pa_car, if_pos hok0, pa_tab_out hsw]) (rfl)
    · subst ex17
      rcases (show i17 = 0 ∨ i17 = 1 ∨ i17 = 2 ∨ i17 = 3 ∨ i17 = 4 ∨ i17 = 5 ∨ i17 = 6 ∨ i17 = 7 by omega) with rfl | rfl | rfl | rfl | rfl | rfl | rfl | rfl
      · skip
        refine gl_tableIn (pc := 17) (off := 47) 64 C dX4_car_17 (by decide) (by decide) (by decide) (by decide) ?_
        refine gl_aload_0 (pc := 64) C dX4_car_64 ?_
        refine gl_getR (pc := 65) C dX4_car_65 fX4_car_10 rfl rfl ?_
        refine gl_getR (pc := 68) C dX4_car_68 fX4_car_30 rfl rfl ?_
        refine gl_getR (pc := 71) C dX4_car_71 fX4_car_75 rfl rfl ?_
        refine gl_iload_1 (pc := 74) C dX4_car_74 ?_
        refine gl_iald (pc := 75) _ C dX4_car_75 rfl rfl (by omega) ?_
        refine gl_top (h0 (iC c 3) (by first | (unfold iC; omega) | (unfold iK; omega) | omega)) ?_
        exact gl_iret (pc := 76) C dX4_car_76 (by rw [pa_car, if_pos hok0, hcN]; refine Eq.symm (pa_tab_in ?_ ?_) <;> omega) (rfl)
      · skip
        refine gl_tableIn (pc := 17) (off := 60) 77 C dX4_car_17 (by decide) (by decide) (by decide) (by decide) ?_
        refine gl_aload_0 (pc := 77) C dX4_car_77 ?_
        refine gl_getR (pc := 78) C dX4_car_78 fX4_car_10 rfl rfl ?_
        refine gl_getR (pc := 81) C dX4_car_81 fX4_car_30 rfl rfl ?_
        refine gl_getR (pc := 84) C dX4_car_84 fX4_car_55 rfl rfl ?_
        refine gl_iload_1 (pc := 87) C dX4_car_87 ?_
        refine gl_iald (pc := 88) _ C dX4_car_88 rfl rfl (by omega) ?_
        refine gl_top (h0 (iC c 4) (by first | (unfold iC; omega) | (unfold iK; omega) | omega)) ?_
        exact gl_iret (pc := 89) C dX4_car_89 (by rw [pa_car, if_pos hok0, hcN]; refine Eq.symm (pa_tab_in ?_ ?_) <;> omega) (rfl)
      · skip
        refine gl_tableIn (pc := 17) (off := 73) 90 C dX4_car_17 (by decide) (by decide) (by decide) (by decide) ?_
        refine gl_aload_0 (pc := 90) C dX4_car_90 ?_
        refine gl_getR (pc := 91) C dX4_car_91 fX4_car_10 rfl rfl ?_
        refine gl_getR (pc := 94) C dX4_car_94 fX4_car_58 rfl rfl ?_
        refine gl_iload_1 (pc := 97) C dX4_car_97 ?_
        refine gl_iconst (pc := 98) (nI 2) C dX4_car_98 (by decide) ?_
        refine gl_callVi (pc := 99) (gl_up1r 0 (by omega) hS (ctX0_numberOf (gl_sh V.1 (gl_eH 0)) hn40 hn (nI c) (nI 2))) C dX4_car_99 gX4_car_X0_numberOf rfl hdX0_numberOf ⟨rfl, rfl, Nat.le_of_ble_eq_true rfl, Nat.le_of_ble_eq_true rfl⟩ rfl (Nat.le_of_ble_eq_true rfl) rfl rfl rfl ?_
        exact gl_iret (pc := 102) C dX4_car_102 (by rw [pa_car, if_pos hok0, hcN]; refine Eq.symm (pa_tab_in ?_ ?_) <;> omega) (rfl)
      · skip
        refine gl_tableIn (pc := 17) (off := 86) 103 C dX4_car_17 (by decide) (by decide) (by decide) (by decide) ?_
        refine gl_aload_0 (pc := 103) C dX4_car_103 ?_
        refine gl_getR (pc := 104) C dX4_car_104 fX4_car_10 rfl rfl ?_
        refine gl_getR (pc := 107) C dX4_car_107 fX4_car_58 rfl rfl ?_
        refine gl_iload_1 (pc := 110) C dX4_car_110 ?_
        refine gl_iconst (pc := 111) (nI 1) C dX4_car_111 (by decide) ?_
        refine gl_callVi (pc := 112) (gl_up1r 0 (by omega) hS (ctX0_numberOf (gl_sh V.1 (gl_eH 0)) hn40 hn (nI c) (nI 1))) C dX4_car_112 gX4_car_X0_numberOf rfl hdX0_numberOf ⟨rfl, rfl, Nat.le_of_ble_eq_true rfl, Nat.le_of_ble_eq_true rfl⟩ rfl (Nat.le_of_ble_eq_true rfl) rfl rfl rfl ?_
        exact gl_iret (pc := 115) C dX4_car_115 (by rw [pa_car, if_pos hok0, hcN]; refine Eq.symm (pa_tab_in ?_ ?_) <;> omega) (rfl)
      · skip
        refine gl_tableIn (pc := 17) (off := 99) 116 C dX4_car_17 (by decide) (by decide) (by decide) (by decide) ?_
        refine gl_aload_0 (pc := 116) C dX4_car_116 ?_
        refine gl_getR (pc := 117) C dX4_car_117 fX4_car_10 rfl rfl ?_
        refine gl_getR (pc := 120) C dX4_car_120 fX4_car_58 rfl rfl ?_
        refine gl_iload_1 (pc := 123) C dX4_car_123 ?_
        refine gl_callVi (pc := 124) (gl_up1r 0 (by omega) hS (ctX0_stopsOf (gl_sh V.1 (gl_eH 0)) hn40 hn (nI c))) C dX4_car_124 gX4_car_X0_stopsOf rfl hdX0_stopsOf ⟨rfl, rfl, Nat.le_of_ble_eq_true rfl, Nat.le_of_ble_eq_true rfl⟩ rfl (Nat.le_of_ble_eq_true rfl) rfl rfl rfl ?_
        refine gl_callSi (pc := 127) (ctJ6_bitCount V.1 LC ok_LC G (sp_b16_stops n (fun k hk => ⟨(hcal k hk).1, (hcal k hk).2.1⟩))) C dX4_car_127 gX4_car_J6_bitCount_0f7a4 rfl hdJ6_bitCount_0f7a4 ⟨rfl, rfl, Nat.le_of_ble_eq_true rfl, Nat.le_of_ble_eq_true rfl⟩ rfl (Nat.le_of_ble_eq_true rfl) rfl ?_
        exact gl_iret (pc := 130) C dX4_car_130 (by rw [pa_car, if_pos hok0, hcN]; refine Eq.symm (pa_tab_in ?_ ?_) <;> omega) (rfl)
      · skip
        refine gl_tableIn (pc := 17) (off := 114) 131 C dX4_car_17 (by decide) (by decide) (by decide) (by decide) ?_
        refine gl_aload_0 (pc := 131) C dX4_car_131 ?_
        refine gl_getR (pc := 132) C dX4_car_132 fX4_car_10 rfl rfl ?_
        refine gl_getR (pc := 135) C dX4_car_135 fX4_car_58 rfl rfl ?_
        refine gl_iload_1 (pc := 138) C dX4_car_138 ?_
        refine gl_aload_0 (pc := 139) C dX4_car_139 ?_
        refine gl_getR (pc := 140) C dX4_car_140 fX4_car_10 rfl rfl ?_
        refine gl_getR (pc := 143) C dX4_car_143 fX4_car_30 rfl rfl ?_
        refine gl_getR (pc := 146) C dX4_car_146 fX4_car_75 rfl rfl ?_
        refine gl_iload_1 (pc := 149) C dX4_car_149 ?_
        refine gl_iald (pc := 150) _ C dX4_car_150 rfl rfl (by omega) ?_
        refine gl_top (h0 (iC c 3) (by first | (unfold iC; omega) | (unfold iK; omega) | omega)) ?_
        refine gl_callVi (pc := 151) (gl_up1r 0 (by omega) hS (ctX0_aimOf (gl_sh V.1 (gl_eH 0)) hn40 hn (fun k hk => (hcal k hk).2.1) (nI c) (hcar c hc).2.2.1)) C dX4_car_151 gX4_car_X0_aimOf rfl hdX0_aimOf ⟨rfl, rfl, Nat.le_of_ble_eq_true rfl, Nat.le_of_ble_eq_true rfl⟩ rfl (Nat.le_of_ble_eq_true rfl) rfl rfl rfl ?_
        exact gl_iret (pc := 154) C dX4_car_154 (by rw [pa_car, if_pos hok0, hcN]; refine Eq.symm (pa_tab_in ?_ ?_) <;> omega) (rfl)
      · skip
        refine gl_tableIn (pc := 17) (off := 138) 155 C dX4_car_17 (by decide) (by decide) (by decide) (by decide) ?_
        refine gl_aload_0 (pc := 155) C dX4_car_155 ?_
        refine gl_getR (pc := 156) C dX4_car_156 fX4_car_10 rfl rfl ?_
        refine gl_getR (pc := 159) C dX4_car_159 fX4_car_30 rfl rfl ?_
        refine gl_getR (pc := 162) C dX4_car_162 fX4_car_130 rfl rfl ?_
        refine gl_iload_1 (pc := 165) C dX4_car_165 ?_
        refine gl_iald (pc := 166) _ C dX4_car_166 rfl rfl (by omega) ?_
        refine gl_top (h0 (iC c 5) (by first | (unfold iC; omega) | (unfold iK; omega) | omega)) ?_
        exact gl_iret (pc := 167) C dX4_car_167 (by rw [pa_car, if_pos hok0, hcN]; refine Eq.symm (pa_tab_in ?_ ?_) <;> omega) (rfl)
      · skip
        refine gl_tableIn (pc := 17) (off := 151) 168 C dX4_car_17 (by decide) (by decide) (by decide) (by decide) ?_
        refine gl_aload_0 (pc := 168) C dX4_car_168 ?_
        refine gl_getR (pc := 169) C dX4_car_169 fX4_car_10 rfl rfl ?_
        refine gl_iload_1 (pc := 172) C dX4_car_172 ?_
        refine gl_callVi (pc := 173) (gl_up1r 0 (by omega) hS (ctX3_isAwake (gl_sh V.1 (gl_eH 0)) w (by omega) c)) C dX4_car_173 gX4_car_X3_isAwake rfl hdX3_isAwake ⟨rfl, rfl, Nat.le_of_ble_eq_true rfl, Nat.le_of_ble_eq_true rfl⟩ rfl (Nat.le_of_ble_eq_true rfl) rfl rfl rfl ?_
        refine gl_ifeq (pc := 176) 183 C dX4_car_176 (by decide) (fun h176 => ?_) (fun h176 => ?_)
        · skip
          replace h176 := gl_bz.mp h176
          refine gl_iconst (pc := 183) (nI 0) C dX4_car_183 (by decide) ?_
          exact gl_iret (pc := 184) C dX4_car_184 (by rw [pa_car, if_pos hok0, hcN, show pa_tab 7 (pc_car S n t c) (nI 7) = pc_car S n t c 7 from pa_tab_in (by omega) (by omega)]; simp only [pc_car]; first | rw [if_pos h176] | rw [if_neg h176]) (rfl)
        · skip
          replace h176 := gl_bn.mp h176
          refine gl_iconst (pc := 179) (nI 1) C dX4_car_179 (by decide) ?_
          refine gl_goto (pc := 180) 184 C dX4_car_180 (by decide) ?_
          exact gl_iret (pc := 184) C dX4_car_184 (by rw [pa_car, if_pos hok0, hcN, show pa_tab 7 (pc_car S n t c) (nI 7) = pc_car S n t c 7 from pa_tab_in (by omega) (by omega)]; simp only [pc_car]; first | rw [if_pos h176] | rw [if_neg h176]) (rfl)
  · skip
    replace h11 := gl_bz.mp h11
    rw [hm] at h11
    refine gl_iconst (pc := 14) (-1) C dX4_car_14 (by decide) ?_
    exact gl_iret (pc := 15) C dX4_car_15 (by rw [pa_car, if_neg h11]) (rfl)
set_option maxRecDepth 100000 in
set_option maxHeartbeats 4000000 in
theorem ctX4_caller (F : gl_F) {n m t : Nat} {G S : Nat → Int32} (w : sp_W n m t S) (ht31 : t < 2000000) (hS : sp_ag G 0 S) (x y : Int32) : gl_Ct F LC yX4_caller wsX4_caller rmX4_caller [.ref (gl_r F 126), .int x, .int y] G (some (.int (pa_caller S n x y))) (G) := by
  refine gl_met (cc := cX4_caller) (maxL := 3) (ret := some .int) [some (.ref (gl_r F 126)), some (.int x), some (.int y)] (plainFor_of_name (by decide)) rfl ok_LC (by simp [Value.category]) (Nat.le_of_ble_eq_true rfl) rfl (fun V hV C => ?_)
  subst hV
  obtain ⟨hn40, hm5, hn, hm, ht, hcar, hcal⟩ := id w
  have h0 := sp_ag_0 hS
  refine gl_aload_0 (pc := 0) C dX4_caller_0 ?_
  refine gl_getR (pc := 1) C dX4_caller_1 fX4_caller_10 rfl rfl ?_
  refine gl_getR (pc := 4) C dX4_caller_4 fX4_caller_58 rfl rfl ?_
  refine gl_iload_1 (pc := 7) C dX4_caller_7 ?_
  refine gl_callVi (pc := 8) (gl_up1r 0 (by omega) hS (ctX0_has (gl_sh V.1 (gl_eH 0)) S x)) C dX4_caller_8 gX4_caller_X0_has rfl hdX0_has ⟨rfl, rfl, Nat.le_of_ble_eq_true rfl, Nat.le_of_ble_eq_true rfl⟩ rfl (Nat.le_of_ble_eq_true rfl) rfl rfl rfl ?_
  refine gl_ifne (pc := 11) 16 C dX4_caller_11 (by decide) (fun h11 => ?_) (fun h11 => ?_)
  · skip
    replace h11 := gl_bn.mp h11
    rw [hn] at h11
    have hok0 := h11
    obtain ⟨k, hk, rfl⟩ := sp_has_n (by omega) hok0
    have hcN : cN (nI k) = k := nI_clamp (by omega)
    have hk40 : k < 40 := by omega
    refine gl_iload_2 (pc := 16) C dX4_caller_16 ?_
    rcases gl_cases y 7 (by omega) with hsw | ⟨i17, hi17, ex17⟩
    · skip
      refine gl_tableOut (pc := 17) 168 C dX4_caller_17 hsw (by decide) ?_
      refine gl_iconst (pc := 168) (-1) C dX4_caller_168 (by decide) ?_
      exact gl_iret (pc := 169) C dX4_caller_169 (by rw [pa_caller, if_neg (fun q => sp_tab_inr (N := 7) (by omega) hsw q.2)]) (rfl)
    · subst ex17
      rcases (show i17 = 0 ∨ i17 = 1 ∨ i17 = 2 ∨ i17 = 3 ∨ i17 = 4 ∨ i17 = 5 ∨ i17 = 6 ∨ i17 = 7 by omega) with rfl | rfl | rfl | rfl | rfl | rfl | rfl | rfl
      · skip
        refine gl_tableIn (pc := 17) (off := 47) 64 C dX4_caller_17 (by decide) (by decide) (by decide) (by decide) ?_
        refine gl_aload_0 (pc := 64) C dX4_caller_64 ?_
        refine gl_getR (pc := 65) C dX4_caller_65 fX4_caller_10 rfl rfl ?_
        refine gl_getR (pc := 68) C dX4_caller_68 fX4_caller_58 rfl rfl ?_
        refine gl_getR (pc := 71) C dX4_caller_71 fX4_caller_137 rfl rfl ?_
        refine gl_iload_1 (pc := 74) C dX4_caller_74 ?_
        refine gl_iald (pc := 75) _ C dX4_caller_75 rfl rfl (by omega) ?_
        refine gl_top (h0 (iK k 0) (by first | (unfold iC; omega) | (unfold iK; omega) | omega)) ?_
        exact gl_iret (pc := 76) C dX4_caller_76 (by rw [pa_caller, if_pos ⟨hok0, sp_inr_lit (by omega) (by omega)⟩, hcN]; rfl) (rfl)
      · skip
        refine gl_tableIn (pc := 17) (off := 60) 77 C dX4_caller_17 (by decide) (by decide) (by decide) (by decide) ?_
        refine gl_aload_0 (pc := 77) C dX4_caller_77 ?_
        refine gl_getR (pc := 78) C dX4_caller_78 fX4_caller_10 rfl rfl ?_
        refine gl_getR (pc := 81) C dX4_caller_81 fX4_caller_58 rfl rfl ?_
        refine gl_getR (pc := 84) C dX4_caller_84 fX4_caller_138 rfl rfl ?_
        refine gl_iload_1 (pc := 87) C dX4_caller_87 ?_
        refine gl_iald (pc := 88) _ C dX4_caller_88 rfl rfl (by omega) ?_
        refine gl_top (h0 (iK k 1) (by first | (unfold iC; omega) | (unfold iK; omega) | omega)) ?_
        exact gl_iret (pc := 89) C dX4_caller_89 (by rw [pa_caller, if_pos ⟨hok0, sp_inr_lit (by omega) (by omega)⟩, hcN]; rfl) (rfl)
      · skip
        refine gl_tableIn (pc := 17) (off := 73) 90 C dX4_caller_17 (by decide) (by decide) (by decide) (by decide) ?_
        refine gl_aload_0 (pc := 90) C dX4_caller_90 ?_
        refine gl_getR (pc := 91) C dX4_caller_91 fX4_caller_10 rfl rfl ?_
        refine gl_getR (pc := 94) C dX4_caller_94 fX4_caller_58 rfl rfl ?_
        refine gl_getR (pc := 97) C dX4_caller_97 fX4_caller_141 rfl rfl ?_
        refine gl_iload_1 (pc := 100) C dX4_caller_100 ?_
        refine gl_iald (pc := 101) _ C dX4_caller_101 rfl rfl (by omega) ?_
        refine gl_top (h0 (iK k 2) (by first | (unfold iC; omega) | (unfold iK; omega) | omega)) ?_
        exact gl_iret (pc := 102) C dX4_caller_102 (by rw [pa_caller, if_pos ⟨hok0, sp_inr_lit (by omega) (by omega)⟩, hcN]; rfl) (rfl)
      · skip
        refine gl_tableIn (pc := 17) (off := 86) 103 C dX4_caller_17 (by decide) (by decide) (by decide) (by decide) ?_
        refine gl_aload_0 (pc := 103) C dX4_caller_103 ?_
        refine gl_getR (pc := 104) C dX4_caller_104 fX4_caller_10 rfl rfl ?_
        refine gl_getR (pc := 107) C dX4_caller_107 fX4_caller_58 rfl rfl ?_
        refine gl_getR (pc := 110) C dX4_caller_110 fX4_caller_144 rfl rfl ?_
        refine gl_iload_1 (pc := 113) C dX4_caller_113 ?_
        refine gl_iald (pc := 114) _ C dX4_caller_114 rfl rfl (by omega) ?_
        refine gl_top (h0 (iK k 3) (by first | (unfold iC; omega) | (unfold iK; omega) | omega)) ?_
        exact gl_iret (pc := 115) C dX4_caller_115 (by rw [pa_caller, if_pos ⟨hok0, sp_inr_lit (by omega) (by omega)⟩, hcN]; rfl) (rfl)
      · skip
        refine gl_tableIn (pc := 17) (off := 99) 116 C dX4_caller_17 (by decide) (by decide) (by decide) (by decide) ?_
        refine gl_aload_0 (pc := 116) C dX4_caller_116 ?_
        refine gl_getR (pc := 117) C dX4_caller_117 fX4_caller_10 rfl rfl ?_
        refine gl_getR (pc := 120) C dX4_caller_120 fX4_caller_58 rfl rfl ?_
        refine gl_getR (pc := 123) C dX4_caller_123 fX4_caller_147 rfl rfl ?_
        refine gl_iload_1 (pc := 126) C dX4_caller_126 ?_
        refine gl_iald (pc := 127) _ C dX4_caller_127 rfl rfl (by omega) ?_
        refine gl_top (h0 (iK k 4) (by first | (unfold iC; omega) | (unfold iK; omega) | omega)) ?_
        exact gl_iret (pc := 128) C dX4_caller_128 (by rw [pa_caller, if_pos ⟨hok0, sp_inr_lit (by omega) (by omega)⟩, hcN]; rfl) (rfl)
      · skip
        refine gl_tableIn (pc := 17) (off := 112) 129 C dX4_caller_17 (by decide) (by decide) (by decide) (by decide) ?_
        refine gl_aload_0 (pc := 129) C dX4_caller_129 ?_
        refine gl_getR (pc := 130) C dX4_caller_130 fX4_caller_10 rfl rfl ?_
        refine gl_getR (pc := 133) C dX4_caller_133 fX4_caller_58 rfl rfl ?_
        refine gl_getR (pc := 136) C dX4_caller_136 fX4_caller_150 rfl rfl ?_
        refine gl_iload_1 (pc := 139) C dX4_caller_139 ?_
        refine gl_iald (pc := 140) _ C dX4_caller_140 rfl rfl (by omega) ?_
        refine gl_top (h0 (iK k 5) (by first | (unfold iC; omega) | (unfold iK; omega) | omega)) ?_
        exact gl_iret (pc := 141) C dX4_caller_141 (by rw [pa_caller, if_pos ⟨hok0, sp_inr_lit (by omega) (by omega)⟩, hcN]; rfl) (rfl)
      · skip
        refine gl_tableIn (pc := 17) (off := 125) 142 C dX4_caller_17 (by decide) (by decide) (by decide) (by decide) ?_
        refine gl_aload_0 (pc := 142) C dX4_caller_142 ?_
        refine gl_getR (pc := 143) C dX4_caller_143 fX4_caller_10 rfl rfl ?_
        refine gl_getR (pc := 146) C dX4_caller_146 fX4_caller_58 rfl rfl ?_
        refine gl_getR (pc := 149) C dX4_caller_149 fX4_caller_153 rfl rfl ?_
        refine gl_iload_1 (pc := 152) C dX4_caller_152 ?_
        refine gl_iald (pc := 153) _ C dX4_caller_153 rfl rfl (by omega) ?_
        refine gl_top (h0 (iK k 6) (by first | (unfold iC; omega) | (unfold iK; omega) | omega)) ?_
        exact gl_iret (pc := 154) C dX4_caller_154 (by rw [pa_caller, if_pos ⟨hok0, sp_inr_lit (by omega) (by omega)⟩, hcN]; rfl) (rfl)
      · skip
        refine gl_tableIn (pc := 17) (off := 138) 155 C dX4_caller_17 (by decide) (by decide) (by decide) (by decide) ?_
        refine gl_aload_0 (pc := 155) C dX4_caller_155 ?_
        refine gl_getR (pc := 156) C dX4_caller_156 fX4_caller_10 rfl rfl ?_
        refine gl_getR (pc := 159) C dX4_caller_159 fX4_caller_58 rfl rfl ?_
        refine gl_getR (pc := 162) C dX4_caller_162 fX4_caller_156 rfl rfl ?_
        refine gl_iload_1 (pc := 165) C dX4_caller_165 ?_
        refine gl_iald (pc := 166) _ C dX4_caller_166 rfl rfl (by omega) ?_
        refine gl_top (h0 (iK k 7) (by first | (unfold iC; omega) | (unfold iK; omega) | omega)) ?_
        exact gl_iret (pc := 167) C dX4_caller_167 (by rw [pa_caller, if_pos ⟨hok0, sp_inr_lit (by omega) (by omega)⟩, hcN]; rfl) (rfl)
  · skip
    replace h11 := gl_bz.mp h11
    rw [hn] at h11
    refine gl_iconst (pc := 14) (-1) C dX4_caller_14 (by decide) ?_
    exact gl_iret (pc := 15) C dX4_caller_15 (by rw [pa_caller, if_neg (fun q => h11 q.1)]) (rfl)
set_option maxRecDepth 100000 in
set_option maxHeartbeats 4000000 in
theorem ctX4_group (F : gl_F) {n m t : Nat} {G S : Nat → Int32} (w : sp_W n m t S) (ht31 : t < 2000000) (hS : sp_ag G 0 S) (i y : Int32) : gl_Ct F LC yX4_group wsX4_group rmX4_group [.ref (gl_r F 126), .int i, .int y] G (some (.int (pa_group S n i y))) (G) := by
  refine gl_met (cc := cX4_group) (maxL := 4) (ret := some .int) [some (.ref (gl_r F 126)), some (.int i), some (.int y), none] (plainFor_of_name (by decide)) rfl ok_LC (by simp [Value.category]) (Nat.le_of_ble_eq_true rfl) rfl (fun V hV C => ?_)
  subst hV
  obtain ⟨hn40, hm5, hn, hm, ht, hcar, hcal⟩ := id w
  have h0 := sp_ag_0 hS
  refine gl_iload_1 (pc := 0) C dX4_group_0 ?_
  refine gl_iflt (pc := 1) 13 C dX4_group_1 (by decide) (fun h1 => ?_) (fun h1 => ?_)
  · skip
    have hno : ¬ (¬ i < 0 ∧ sp_inr y (nI 0) (nI 3)) := fun q => q.1 h1
    refine gl_iconst (pc := 13) (-1) C dX4_group_13 (by decide) ?_
    exact gl_iret (pc := 14) C dX4_group_14 (by rw [pa_group, if_neg hno]) (rfl)
  · skip
    refine gl_iload_2 (pc := 4) C dX4_group_4 ?_
    refine gl_iflt (pc := 5) 13 C dX4_group_5 (by decide) (fun h5 => ?_) (fun h5 => ?_)
    · skip
      have hno : ¬ (¬ i < 0 ∧ sp_inr y (nI 0) (nI 3)) := fun q => ((sp_in0 y 3).mpr q.2).1 h5
      refine gl_iconst (pc := 13) (-1) C dX4_group_13 (by decide) ?_
      exact gl_iret (pc := 14) C dX4_group_14 (by rw [pa_group, if_neg hno]) (rfl)
    · skip
      refine gl_iload_2 (pc := 8) C dX4_group_8 ?_
      refine gl_iconst (pc := 9) (nI 3) C dX4_group_9 (by decide) ?_
      refine gl_icmp_le (pc := 10) 15 C dX4_group_10 (by decide) (fun h10 => ?_) (fun h10 => ?_)
      · skip
        have hok := And.intro h1 ((sp_in0 y 3).mp ⟨h5, h10⟩)
        refine gl_aload_0 (pc := 15) C dX4_group_15 ?_
        refine gl_getR (pc := 16) C dX4_group_16 fX4_group_10 rfl rfl ?_
        refine gl_getR (pc := 19) C dX4_group_19 fX4_group_58 rfl rfl ?_
        refine gl_iload_1 (pc := 22) C dX4_group_22 ?_
        refine gl_callVi (pc := 23) (gl_up1r 0 (by omega) hS (ctX0_firstOfGroup (gl_sh V.1 (gl_eH 0)) hn40 hn i)) C dX4_group_23 gX4_group_X0_firstOfGroup rfl hdX0_firstOfGroup ⟨rfl, rfl, Nat.le_of_ble_eq_true rfl, Nat.le_of_ble_eq_true rfl⟩ rfl (Nat.le_of_ble_eq_true rfl) rfl rfl rfl ?_
        refine gl_istore_3 (pc := 26) C dX4_group_26 ?_
        refine gl_aload_0 (pc := 27) C dX4_group_27 ?_
        refine gl_getR (pc := 28) C dX4_group_28 fX4_group_10 rfl rfl ?_
        refine gl_getR (pc := 31) C dX4_group_31 fX4_group_58 rfl rfl ?_
        refine gl_iload_3 (pc := 34) C dX4_group_34 ?_
        refine gl_callVi (pc := 35) (gl_up1r 0 (by omega) hS (ctX0_has (gl_sh V.1 (gl_eH 0)) S (sp_fog S i n))) C dX4_group_35 gX4_group_X0_has rfl hdX0_has ⟨rfl, rfl, Nat.le_of_ble_eq_true rfl, Nat.le_of_ble_eq_true rfl⟩ rfl (Nat.le_of_ble_eq_true rfl) rfl rfl rfl ?_
        refine gl_ifne (pc := 38) 44 C dX4_group_38 (by decide) (fun h38 => ?_) (fun h38 => ?_)
        · skip
          replace h38 := gl_bn.mp h38
          rw [hn] at h38
          obtain ⟨f, hf, ef⟩ := sp_has_n (by omega) h38
          have hfN : cN (sp_fog S i n) = f := by rw [ef]; exact nI_clamp (by omega)
          have hf9 : ¬ sp_fog S i n = -9 := by rw [ef]; intro q; have := congrArg Int32.toInt q; rw [nI_toInt (by omega), show (-9 : Int32).toInt = -9 by decide] at this; omega
          have hf40 : f < 40 := by omega
          refine gl_on (L1 := [some (.ref (gl_r V.1 126)), some (.int i), some (.int y), some (.int (nI f))]) ?_ (gl_le_c rfl (gl_le_c rfl (gl_le_c rfl (gl_le_c (congrArg Value.int ef) gl_le_n)))) rfl
          refine gl_iload_2 (pc := 44) C dX4_group_44 ?_
          rcases gl_cases y 3 (by omega) with hsw | ⟨i45, hi45, ex45⟩
          · skip
            exact absurd hok.2 (sp_tab_inr (N := 3) (by omega) hsw)
          · subst ex45
            rcases (show i45 = 0 ∨ i45 = 1 ∨ i45 = 2 ∨ i45 = 3 by omega) with rfl | rfl | rfl | rfl
            · skip
              refine gl_tableIn (pc := 45) (off := 27) 72 C dX4_group_45 (by decide) (by decide) (by decide) (by decide) ?_
              refine gl_aload_0 (pc := 72) C dX4_group_72 ?_
              refine gl_getR (pc := 73) C dX4_group_73 fX4_group_10 rfl rfl ?_
              refine gl_getR (pc := 76) C dX4_group_76 fX4_group_58 rfl rfl ?_
              refine gl_getR (pc := 79) C dX4_group_79 fX4_group_137 rfl rfl ?_
              refine gl_iload_3 (pc := 82) C dX4_group_82 ?_
              refine gl_iald (pc := 83) _ C dX4_group_83 rfl rfl (by omega) ?_
              refine gl_top (h0 (iK f 0) (by first | (unfold iC; omega) | (unfold iK; omega) | omega)) ?_
              exact gl_iret (pc := 84) C dX4_group_84 (by rw [pa_group, if_pos hok, if_neg (fun q => q.elim hf9 (by decide)), if_neg (by decide), hfN]; rfl) (rfl)
            · skip
              refine gl_tableIn (pc := 45) (off := 40) 85 C dX4_group_45 (by decide) (by decide) (by decide) (by decide) ?_
              refine gl_aload_0 (pc := 85) C dX4_group_85 ?_
              refine gl_getR (pc := 86) C dX4_group_86 fX4_group_10 rfl rfl ?_
              refine gl_getR (pc := 89) C dX4_group_89 fX4_group_58 rfl rfl ?_
              refine gl_getR (pc := 92) C dX4_group_92 fX4_group_138 rfl rfl ?_
              refine gl_iload_3 (pc := 95) C dX4_group_95 ?_
              refine gl_iald (pc := 96) _ C dX4_group_96 rfl rfl (by omega) ?_
              refine gl_top (h0 (iK f 1) (by first | (unfold iC; omega) | (unfold iK; omega) | omega)) ?_
              exact gl_iret (pc := 97) C dX4_group_97 (by rw [pa_group, if_pos hok, if_neg (fun q => q.elim hf9 (by decide)), if_neg (by decide), hfN]; rfl) (rfl)
            · skip
              refine gl_tableIn (pc := 45) (off := 53) 98 C dX4_group_45 (by decide) (by decide) (by decide) (by decide) ?_
              refine gl_aload_0 (pc := 98) C dX4_group_98 ?_
              refine gl_getR (pc := 99) C dX4_group_99 fX4_group_10 rfl rfl ?_
              refine gl_getR (pc := 102) C dX4_group_102 fX4_group_58 rfl rfl ?_
              refine gl_iload_3 (pc := 105) C dX4_group_105 ?_
              refine gl_callVi (pc := 106) (gl_up1r 0 (by omega) hS (ctX0_sizeOfGroup (gl_sh V.1 (gl_eH 0)) hn40 hn f hf40)) C dX4_group_106 gX4_group_X0_sizeOfGroup rfl hdX0_sizeOfGroup ⟨rfl, rfl, Nat.le_of_ble_eq_true rfl, Nat.le_of_ble_eq_true rfl⟩ rfl (Nat.le_of_ble_eq_true rfl) rfl rfl rfl ?_
              exact gl_iret (pc := 109) C dX4_group_109 (by rw [pa_group, if_pos hok, if_neg (fun q => q.elim hf9 (by decide)), if_pos rfl, hfN]) (rfl)
            · skip
              refine gl_tableOut (pc := 45) 110 C dX4_group_45 (Or.inr (by decide)) (by decide) ?_
              refine gl_iload_3 (pc := 110) C dX4_group_110 ?_
              exact gl_iret (pc := 111) C dX4_group_111 (by rw [pa_group, if_pos hok, if_pos (Or.inr rfl)]; exact ef.symm) (rfl)
        · skip
          replace h38 := gl_bz.mp h38
          rw [hn] at h38
          have hf9 : sp_fog S i n = -9 := (sp_fog_in n).elim id (fun ⟨f, hf, _, ef⟩ => absurd ⟨by rw [ef]; exact nI_pos (by omega), by rw [ef]; exact nI_ge hf (by omega)⟩ h38)
          refine gl_bipush (pc := 41) (-9) C dX4_group_41 (by decide +kernel) ?_
          exact gl_iret (pc := 43) C dX4_group_43 (by rw [pa_group, if_pos hok, if_pos (Or.inl hf9)]; exact hf9.symm) (rfl)
      · skip
        have hno : ¬ (¬ i < 0 ∧ sp_inr y (nI 0) (nI 3)) := fun q => h10 ((sp_in0 y 3).mpr q.2).2
        refine gl_iconst (pc := 13) (-1) C dX4_group_13 (by decide) ?_
        exact gl_iret (pc := 14) C dX4_group_14 (by rw [pa_group, if_neg hno]) (rfl)
